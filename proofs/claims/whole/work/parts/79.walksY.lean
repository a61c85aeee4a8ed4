theorem c_X4_posesU (l : Launch) (G : lzG) (a : Nat) (f : Nat → Int32) (v : Nat) (set : Int32) (N : Nat) (hv : v < 5) (hN : f 2 = nI N) (hN8 : N ≤ 8) : Met l yX4_poses wsX4_poses ({ frames := 5, cells := 0, slots := 0, locals := 114 }) (va_Pc [.ref a, .int (nI v), .int set] (rwP G (lzI G a 64 f))) (va_Qi (S := Unit) (fun (r : Int32) (_ : Unit) => r = b2 (posB f v set N)) (rwB G (fun _ : Unit => lzI G a 64 (posR f v set N))) (lzA (lzI G a 64 f))) 0 0 (lzA (lzI G a 64 f)) := by
  by_cases hB : wrgN f v set N ≤ f 1
  · have e : posB f v set N = true := decide_eq_true hB
    refine met_i (c_X4_poses_in l G a f v set N hv hN hN8 hB) ?_ (fun r u h => ?_)
    · unfold posR
      rw [e]
      rfl
    · rw [e]
      exact h
  · have e : posB f v set N = false := decide_eq_false hB
    refine met_i (c_X4_poses_out l G a f v set N hv hN hN8 hB) ?_ (fun r u h => ?_)
    · unfold posR
      rw [e]
      rfl
    · rw [e]
      exact h
set_option maxHeartbeats 4000000 in
set_option maxRecDepth 100000 in
theorem c_X4_drawn_ok (l : Launch) (G : lzG) (m : Nat) (q : Nat → Nat) (S : Nat → Int32) (f th : Nat → Int32) (n sd : Nat) (what : Int32) (N M : Nat) (hN : f 2 = nI N) (hN8 : N ≤ 8) (hM : f 3 = nI M) (hM5 : M ≤ 5) (hR : (decide (0 < f 0)) = true) (hM0 : 0 < M) (hn60 : n ≤ 60) (hsd : sd ≤ 999999) (hb1 : inR (nI n) 0 60 = true) (hb2 : inR (nI sd) 1 999999 = true) (hw : inR what 0 1 = true) : Met l yX4_drawn wsX4_drawn ({ frames := 6, cells := 0, slots := 0, locals := 139 }) (va_Pc [.ref m, .int (nI n), .int (nI sd), .int what] (rwP G (lzM m q S ++ (lzI G (q 5) 64 f ++ (lzI G (q 7) 64 th))))) (va_Qi (S := Unit) (fun (r : Int32) (_ : Unit) => r = if what = 0 then cntI (drmB (cpR f th 64) sd N M) n else sumI (fun s => drmF (cpR f th 64) sd N M n (4 + 5 * s + 2) + drmF (cpR f th 64) sd N M n (4 + 5 * s + 3)) N) (rwB G (fun _ : Unit => (lzM m q (upd S 0 0) ++ (lzI G (q 5) 64 f ++ (lzI G (q 7) 64 (drmF (cpR f th 64) sd N M n)))))) (lzA (lzM m q S ++ (lzI G (q 5) 64 f ++ (lzI G (q 7) 64 th))))) 0 0 (lzA (lzM m q S ++ (lzI G (q 5) 64 f ++ (lzI G (q 7) 64 th)))) := by
  have hwL : inL what.toInt64 0 1 = true := (inL_of what 0 1).trans hw
  have hb1L : inL (nI n).toInt64 0 60 = true := (inL_of (nI n) 0 60).trans hb1
  have hb2L : inL (nI sd).toInt64 1 999999 = true := (inL_of (nI sd) 1 999999).trans hb2
  refine rw_start (S := Unit) (cc := cX4_drawn) (maxL := 8) (ret := (some .int)) (by decide) rfl (Nat.le_of_ble_eq_true rfl) ?_
  intro pp ee ss mm bl me cd A hx hb hr hlk hml hts hown hP hK hD hAe hS ls hl
  have hA0 : ∀ zz : Nat, lzA (lzM m q S ++ (lzI G (q 5) 64 f ++ (lzI G (q 7) 64 th))) zz → A zz := fun zz h9 => by rw [hAe]; exact h9
  rw [← hAe]
  clear hAe
  have hown : ss.vm.findClass RX4 = some mm.cls := hown
  have hw1 := hts (.fieldLink RX4 48 "LampSquaresModel" "thrown" "I") (List.mem_of_getElem? (i := 1) rfl)
  have hw3 := hts (.constantLong RX4 244 (60)) (List.mem_of_getElem? (i := 3) rfl)
  have hw4 := hts (.constantLong RX4 246 (999999)) (List.mem_of_getElem? (i := 4) rfl)
  have hw6 := hts (.fieldLink RX4 25 "LampSquaresModel" "then" "[I") (List.mem_of_getElem? (i := 6) rfl)
  have hw7 := hts (.fieldLink RX4 19 "LampSquaresModel" "door" "[I") (List.mem_of_getElem? (i := 7) rfl)
  have hw8 := hts (.constantLong RX4 248 (16807)) (List.mem_of_getElem? (i := 8) rfl)
  have hw9 := hts (.constantLong RX4 250 (2147483647)) (List.mem_of_getElem? (i := 9) rfl)
  have hw10 := hts (.constantLong RX4 252 (256)) (List.mem_of_getElem? (i := 10) rfl)
  have hu_wsX40 : ∀ w ∈ wsX40, w.before ([.ref m, .int (nI n), .int (nI sd), .int what] : List Value).toArray ss = true := fun w h9 => hts w (List.mem_cons_of_mem _ (List.mem_append_right _ h9))
  have hl : lv_has ls 8 [(0, .ref m), (1, .int (nI n)), (2, .int (nI sd)), (3, .int what)] := hl
  refine lv_aload_n hx hb dX4_drawn_0 rfl (lv_at hl 0 rfl) ?_
  refine lv_iconst (v := 0) hx hb dX4_drawn_1 (by decide) ?_
  refine lz_put (G := G) (ci := 4) (C := RX4) (T := TX4) (N := 24) hx hb hu_wsX40 (fun _ h9 => h9) tyX4 tyX4_ok nmX4 hown hK hP hD hS 0 rfl rfl 0 (by decide) hw1 rfl rfl (by decide +kernel) (Nat.le_of_ble_eq_true rfl) dX4_drawn_2 (lzM m q (upd S 0 0) ++ (lzI G (q 5) 64 f ++ (lzI G (q 7) 64 th))) rfl (fun H locs hP hD hS => ?_)
  refine lv_aload_n hx hb dX4_drawn_5 rfl (lv_at hl 0 rfl) ?_
  have hPc := hP.sub (ws' := (lzM m q (upd S 0 0) ++ lzI G (q 5) 64 f)) [0, 1] rfl
  refine ro_calli (va_runV (As := []) (rest := []) ⟨hx, hb, hml, hown, hts⟩ (c_X4_isThere l G m q (upd S 0 0) f ) (cwV 0 hts gX4_drawn_X4_isThere rfl rfl rfl (by decide +kernel) ⟨Nat.le_of_ble_eq_true rfl, Nat.le_of_ble_eq_true rfl⟩) (ro_preV hK hPc hP (ci := 4) (q0 := 0) rfl rfl) rfl rfl hl.1 rfl (lv_room (Nat.le_of_ble_eq_true rfl)) dX4_drawn_6 ⟨Nat.zero_le _, Nat.zero_le _⟩) (fun r_1 hr_1 => ?_)
  refine lv_if_ne (tgt := 15) hx hb dX4_drawn_9 (by decide) (fun c_9 => ?_) (fun c_9 => ?_)
  · skip
    have c_9 := b2_n hr_1 c_9
    refine lv_iload_n hx hb dX4_drawn_15 rfl (lv_at hl 1 rfl) ?_
    refine lv_i2l hx hb dX4_drawn_16 rfl ?_
    refine lv_lconst (v := 0) hx hb dX4_drawn_17 (by decide) ?_
    refine lv_ldc2 hx hb hown hw3 dX4_drawn_18 ?_
    refine ro_calli (va_runS (As := [.long ((nI n).toInt64), .long 0, .long 60]) (rest := []) ⟨hx, hb, hml, hown, hts⟩ (c_X4_in l G ((nI n).toInt64) 0 60 ) (cwS 3 hts gX4_drawn_X4_in rfl rfl rfl (by decide +kernel) ⟨Nat.le_of_ble_eq_true rfl, Nat.le_of_ble_eq_true rfl⟩) (ro_pre hK (fun k q h => by simp at h)) rfl rfl hl.1 rfl (lv_room (Nat.le_of_ble_eq_true rfl)) dX4_drawn_21 ⟨Nat.zero_le _, Nat.zero_le _⟩) (fun r_2 hr_2 => ?_)
    refine lv_if_eq (tgt := 49) hx hb dX4_drawn_24 (by decide) (fun c_24 => ?_) (fun c_24 => ?_)
    · skip
      have c_24 := b2_z hr_2 c_24
      exact Bool.noConfusion (hb1L.symm.trans c_24)
    · skip
      have c_24 := b2_n hr_2 c_24
      refine lv_iload_n hx hb dX4_drawn_27 rfl (lv_at hl 2 rfl) ?_
      refine lv_i2l hx hb dX4_drawn_28 rfl ?_
      refine lv_lconst (v := 1) hx hb dX4_drawn_29 (by decide) ?_
      refine lv_ldc2 hx hb hown hw4 dX4_drawn_30 ?_
      refine ro_calli (va_runS (As := [.long ((nI sd).toInt64), .long 1, .long 999999]) (rest := []) ⟨hx, hb, hml, hown, hts⟩ (c_X4_in l G ((nI sd).toInt64) 1 999999 ) (cwS 3 hts gX4_drawn_X4_in rfl rfl rfl (by decide +kernel) ⟨Nat.le_of_ble_eq_true rfl, Nat.le_of_ble_eq_true rfl⟩) (ro_pre hK (fun k q h => by simp at h)) rfl rfl hl.1 rfl (lv_room (Nat.le_of_ble_eq_true rfl)) dX4_drawn_33 ⟨Nat.zero_le _, Nat.zero_le _⟩) (fun r_3 hr_3 => ?_)
      refine lv_if_eq (tgt := 49) hx hb dX4_drawn_36 (by decide) (fun c_36 => ?_) (fun c_36 => ?_)
      · skip
        have c_36 := b2_z hr_3 c_36
        exact Bool.noConfusion (hb2L.symm.trans c_36)
      · skip
        have c_36 := b2_n hr_3 c_36
        refine lv_iload_n hx hb dX4_drawn_39 rfl (lv_at hl 3 rfl) ?_
        refine lv_i2l hx hb dX4_drawn_40 rfl ?_
        refine lv_lconst (v := 0) hx hb dX4_drawn_41 (by decide) ?_
        refine lv_lconst (v := 1) hx hb dX4_drawn_42 (by decide) ?_
        refine ro_calli (va_runS (As := [.long what.toInt64, .long 0, .long 1]) (rest := []) ⟨hx, hb, hml, hown, hts⟩ (c_X4_in l G what.toInt64 0 1 ) (cwS 3 hts gX4_drawn_X4_in rfl rfl rfl (by decide +kernel) ⟨Nat.le_of_ble_eq_true rfl, Nat.le_of_ble_eq_true rfl⟩) (ro_pre hK (fun k q h => by simp at h)) rfl rfl hl.1 rfl (lv_room (Nat.le_of_ble_eq_true rfl)) dX4_drawn_43 ⟨Nat.zero_le _, Nat.zero_le _⟩) (fun r_4 hr_4 => ?_)
        refine lv_if_ne (tgt := 52) hx hb dX4_drawn_46 (by decide) (fun c_46 => ?_) (fun c_46 => ?_)
        · skip
          have c_46 := b2_n hr_4 c_46
          refine lv_iconst (v := 0) hx hb dX4_drawn_52 (by decide) ?_
          refine lv_istore (lv' := [(4, .int 0), (0, .ref m), (1, .int (nI n)), (2, .int (nI sd)), (3, .int what)]) hx hb dX4_drawn_53 hl (by decide) rfl (fun ls hl => ?_)
          have J_55 : ∀ (n9 : Nat), ∀ (k : Nat), (k ≤ 64) → 64 - k < n9 → ∀ (H : Heap) (locs : List Loc), va_P G.1 lzC (lzM m q (upd S 0 0) ++ (lzI G (q 5) 64 f ++ (lzI G (q 7) 64 (cpR f th k)))) H → va_D A (lzM m q (upd S 0 0) ++ (lzI G (q 5) 64 f ++ (lzI G (q 7) 64 (cpR f th k)))) → va_S A ss.heap H locs → ∀ ls : Array Slot, lv_has ls 8 [(4, .int (nI k)), (0, .ref m), (1, .int (nI n)), (2, .int (nI sd)), (3, .int what)] → W pp l ee ({ frames := 6, cells := 0, slots := 0, locals := 139 }) ss mm ([.ref m, .int (nI n), .int (nI sd), .int what] : List Value).toArray bl me cd H locs 0 0 (MQ bl (va_Qi (S := Unit) (fun (r : Int32) (_ : Unit) => r = if what = 0 then cntI (drmB (cpR f th 64) sd N M) n else sumI (fun s => drmF (cpR f th 64) sd N M n (4 + 5 * s + 2) + drmF (cpR f th 64) sd N M n (4 + 5 * s + 3)) N) (rwB G (fun _ : Unit => (lzM m q (upd S 0 0) ++ (lzI G (q 5) 64 f ++ (lzI G (q 7) 64 (drmF (cpR f th 64) sd N M n)))))) A) ([.ref m, .int (nI n), .int (nI sd), .int what] : List Value).toArray ss 0 0 A) (F0 mm 55 ls []) := by
            intro n9
            induction n9 with
            | zero => intro k hk hn; exact absurd hn (Nat.not_lt_zero _)
            | succ n9 ih_55 =>
              intro k hk hn_55 H locs hP hD hS ls hl
              refine lv_iload hx hb dX4_drawn_55 (lv_at hl 0 rfl) ?_
              refine lv_bipush (v := 64) hx hb dX4_drawn_57 (by decide) ?_
              refine lv_icmp_ge (tgt := 82) hx hb dX4_drawn_59 (by decide) (fun c_59 => ?_) (fun c_59 => ?_)
              · skip
                have c_59' := Int32.not_lt.mpr c_59
                have hk2 : 64 ≤ k := lz_ge (N := 64) rfl c_59 (by omega) (by omega)
                have hk4 : k = 64 := by omega
                refine lv_iload_n hx hb dX4_drawn_82 rfl (lv_at hl 3 rfl) ?_
                refine lv_i2l hx hb dX4_drawn_83 rfl ?_
                refine lz_topl (y := lN (lcgN sd 0)) (nI_l (by omega)) ?_
                refine lv_lstore (lv' := [(4, .long (lN (lcgN sd 0))), (0, .ref m), (1, .int (nI n)), (2, .int (nI sd)), (3, .int what)]) hx hb dX4_drawn_84 hl (by decide) rfl (fun ls hl => ?_)
                refine lv_iconst (v := 0) hx hb dX4_drawn_86 (by decide) ?_
                refine lv_istore (lv' := [(6, .int 0), (4, .long (lN (lcgN sd 0))), (0, .ref m), (1, .int (nI n)), (2, .int (nI sd)), (3, .int what)]) hx hb dX4_drawn_87 hl (by decide) rfl (fun ls hl => ?_)
                refine lv_iconst (v := 0) hx hb dX4_drawn_89 (by decide) ?_
                refine lv_istore (lv' := [(7, .int 0), (6, .int 0), (4, .long (lN (lcgN sd 0))), (0, .ref m), (1, .int (nI n)), (2, .int (nI sd)), (3, .int what)]) hx hb dX4_drawn_90 hl (by decide) rfl (fun ls hl => ?_)
                have J_92 : ∀ (n9 : Nat), ∀ (k : Nat), (k ≤ n) → n - k < n9 → ∀ (H : Heap) (locs : List Loc), va_P G.1 lzC (lzM m q (upd S 0 0) ++ (lzI G (q 5) 64 f ++ (lzI G (q 7) 64 (drmF (cpR f th 64) sd N M k)))) H → va_D A (lzM m q (upd S 0 0) ++ (lzI G (q 5) 64 f ++ (lzI G (q 7) 64 (drmF (cpR f th 64) sd N M k)))) → va_S A ss.heap H locs → ∀ ls : Array Slot, lv_has ls 8 [(6, .int (cntI (drmB (cpR f th 64) sd N M) k)), (4, .long (lN (lcgN sd k))), (7, .int (nI k)), (0, .ref m), (1, .int (nI n)), (2, .int (nI sd)), (3, .int what)] → W pp l ee ({ frames := 6, cells := 0, slots := 0, locals := 139 }) ss mm ([.ref m, .int (nI n), .int (nI sd), .int what] : List Value).toArray bl me cd H locs 0 0 (MQ bl (va_Qi (S := Unit) (fun (r : Int32) (_ : Unit) => r = if what = 0 then cntI (drmB (cpR f th 64) sd N M) n else sumI (fun s => drmF (cpR f th 64) sd N M n (4 + 5 * s + 2) + drmF (cpR f th 64) sd N M n (4 + 5 * s + 3)) N) (rwB G (fun _ : Unit => (lzM m q (upd S 0 0) ++ (lzI G (q 5) 64 f ++ (lzI G (q 7) 64 (drmF (cpR f th 64) sd N M n)))))) A) ([.ref m, .int (nI n), .int (nI sd), .int what] : List Value).toArray ss 0 0 A) (F0 mm 92 ls []) := by
                  intro n9
                  induction n9 with
                  | zero => intro k hk hn; exact absurd hn (Nat.not_lt_zero _)
                  | succ n9 ih_92 =>
                    intro k hk hn_92 H locs hP hD hS ls hl
                    refine lv_iload hx hb dX4_drawn_92 (lv_at hl 2 rfl) ?_
                    refine lv_iload_n hx hb dX4_drawn_94 rfl (lv_at hl 4 rfl) ?_
                    refine lv_icmp_ge (tgt := 165) hx hb dX4_drawn_95 (by decide) (fun c_95 => ?_) (fun c_95 => ?_)
                    · skip
                      have c_95' := Int32.not_lt.mpr c_95
                      have hk2 : n ≤ k := (nI_leI (by omega) (by omega)).mp c_95
                      have hk3 : k = n := by omega
                      refine lv_iload_n hx hb dX4_drawn_165 rfl (lv_at hl 6 rfl) ?_
                      refine lv_if_ne (tgt := 174) hx hb dX4_drawn_166 (by decide) (fun c_166 => ?_) (fun c_166 => ?_)
                      · skip
                        refine lv_aload_n hx hb dX4_drawn_174 rfl (lv_at hl 3 rfl) ?_
                        refine lz_get (G := G) (ci := 4) (v := .ref (q 7)) (C := RX4) (T := TX4) (N := 24) hx hb hu_wsX40 (fun _ h9 => h9) hown hK hP 0 rfl rfl 7 (by decide) hw6 rfl rfl dX4_drawn_175 ?_
                        have hPc := hP.sub (ws' := lzI G (q 7) 64 (drmF (cpR f th 64) sd N M k)) [2] rfl
                        refine ro_calli (va_runS (As := [.ref (q 7)]) (rest := []) ⟨hx, hb, hml, hown, hts⟩ (c_X4_votesOf l G (q 7) (drmF (cpR f th 64) sd N M k) N ((drmF_lo (j := 2) (by decide) k).trans hN) (hN8)) (cwS 1 hts gX4_drawn_X4_votesOf rfl rfl rfl (by decide +kernel) ⟨Nat.le_of_ble_eq_true rfl, Nat.le_of_ble_eq_true rfl⟩) (ro_pre hK hPc) rfl rfl hl.1 rfl (lv_room (Nat.le_of_ble_eq_true rfl)) dX4_drawn_178 ⟨Nat.zero_le _, Nat.zero_le _⟩) (fun r_5 hr_5 => ?_)
                        refine lz_top (y := sumI (fun s => (drmF (cpR f th 64) sd N M k) (4 + 5 * s + 2) + (drmF (cpR f th 64) sd N M k) (4 + 5 * s + 3)) N) hr_5 ?_
                        exact rw_iret (S := Unit) (G := G) (Wd := fun _ : Unit => (lzM m q (upd S 0 0) ++ (lzI G (q 5) 64 f ++ (lzI G (q 7) 64 (drmF (cpR f th 64) sd N M n))))) () hx hb hr hlk dX4_drawn_181 hS (by rw [hk3] at hP; exact hP) (by rw [hk3]; first | rw [if_pos c_166] | rw [if_neg c_166])
                      · skip
                        refine lv_iload hx hb dX4_drawn_169 (lv_at hl 0 rfl) ?_
                        refine lv_goto (tgt := 181) hx hb dX4_drawn_171 (by decide) ?_
                        exact rw_iret (S := Unit) (G := G) (Wd := fun _ : Unit => (lzM m q (upd S 0 0) ++ (lzI G (q 5) 64 f ++ (lzI G (q 7) 64 (drmF (cpR f th 64) sd N M n))))) () hx hb hr hlk dX4_drawn_181 hS (by rw [hk3] at hP; exact hP) (by rw [hk3]; first | rw [if_pos c_166] | rw [if_neg c_166])
                    · skip
                      have c_95' := Int32.not_le.mp c_95
                      have hk2 : k < n := (nI_ltI (by omega) (by omega)).mp c_95'
                      refine lv_lload hx hb dX4_drawn_98 (lv_at hl 1 rfl) ?_
                      refine lv_ldc2 hx hb hown hw8 dX4_drawn_100 ?_
                      refine lv_lmul hx hb dX4_drawn_103 ?_
                      refine lv_ldc2 hx hb hown hw9 dX4_drawn_104 ?_
                      refine lv_lrem hx hb dX4_drawn_107 (by decide) ?_
                      refine lz_topl (y := lN (lcgN sd (k + 1))) (lcg_s (by omega)) ?_
                      refine lv_lstore (lv' := [(4, .long (lN (lcgN sd (k + 1)))), (6, .int (cntI (drmB (cpR f th 64) sd N M) k)), (7, .int (nI k)), (0, .ref m), (1, .int (nI n)), (2, .int (nI sd)), (3, .int what)]) hx hb dX4_drawn_108 hl (by decide) rfl (fun ls hl => ?_)
                      refine lv_iload hx hb dX4_drawn_110 (lv_at hl 1 rfl) ?_
                      refine lv_aload_n hx hb dX4_drawn_112 rfl (lv_at hl 3 rfl) ?_
                      refine lz_get (G := G) (ci := 4) (v := .ref (q 7)) (C := RX4) (T := TX4) (N := 24) hx hb hu_wsX40 (fun _ h9 => h9) hown hK hP 0 rfl rfl 7 (by decide) hw6 rfl rfl dX4_drawn_113 ?_
                      refine lv_lload hx hb dX4_drawn_116 (lv_at hl 0 rfl) ?_
                      refine lv_aload_n hx hb dX4_drawn_118 rfl (lv_at hl 3 rfl) ?_
                      refine lz_get (G := G) (ci := 4) (v := .ref (q 7)) (C := RX4) (T := TX4) (N := 24) hx hb hu_wsX40 (fun _ h9 => h9) hown hK hP 0 rfl rfl 7 (by decide) hw6 rfl rfl dX4_drawn_119 ?_
                      refine lv_iconst (v := 3) hx hb dX4_drawn_122 (by decide) ?_
                      refine lz_iald (f := drmF (cpR f th 64) sd N M k) hx hb hK hP 2 rfl 3 (by omega) (Nat.le_of_ble_eq_true rfl) dX4_drawn_123 ?_
                      refine lv_i2l hx hb dX4_drawn_124 rfl ?_
                      refine lv_lrem hx hb dX4_drawn_125 (by rw [show drmF (cpR f th 64) sd N M k 3 = nI M from (drmF_lo (j := 3) (by decide) k).trans hM, nI_l (by omega)]; exact fun h9 => absurd ((pk_lEQ (b := 0) (by omega) (by decide)).mp h9) (by omega)) ?_
                      refine lv_l2i hx hb dX4_drawn_126 rfl ?_
                      refine lz_top (y := nI (drwV sd M k)) (lcg_v (by omega) hM0 hM5 ((drmF_lo (j := 3) (by decide) k).trans hM)) ?_
                      refine lv_lload hx hb dX4_drawn_127 (lv_at hl 0 rfl) ?_
                      refine lv_ldc2 hx hb hown hw10 dX4_drawn_129 ?_
                      refine lv_lrem hx hb dX4_drawn_132 (by decide) ?_
                      refine lv_l2i hx hb dX4_drawn_133 rfl ?_
                      refine lz_top (y := nI (lcgN sd (k + 1) % 256)) (lcg_q (by omega)) ?_
                      refine lv_iconst (v := 1) hx hb dX4_drawn_134 (by decide) ?_
                      refine lv_aload_n hx hb dX4_drawn_135 rfl (lv_at hl 3 rfl) ?_
                      refine lz_get (G := G) (ci := 4) (v := .ref (q 7)) (C := RX4) (T := TX4) (N := 24) hx hb hu_wsX40 (fun _ h9 => h9) hown hK hP 0 rfl rfl 7 (by decide) hw6 rfl rfl dX4_drawn_136 ?_
                      refine lv_iconst (v := 2) hx hb dX4_drawn_139 (by decide) ?_
                      refine lz_iald (f := drmF (cpR f th 64) sd N M k) hx hb hK hP 2 rfl 2 (by omega) (Nat.le_of_ble_eq_true rfl) dX4_drawn_140 ?_
                      refine lv_ishl hx hb dX4_drawn_141 ?_
                      refine lv_iconst (v := 1) hx hb dX4_drawn_142 (by decide) ?_
                      refine lv_isub hx hb dX4_drawn_143 ?_
                      refine lz_top (y := nI (2 ^ N - 1)) (all_sq ((drmF_lo (j := 2) (by decide) k).trans hN) hN8) ?_
                      refine lv_iand hx hb dX4_drawn_144 ?_
                      refine lz_top (y := drwQ sd N k) (rfl) ?_
                      have hPc := hP.sub (ws' := lzI G (q 7) 64 (drmF (cpR f th 64) sd N M k)) [2] rfl
                      have hDc := hD.sub (ws' := lzI G (q 7) 64 (drmF (cpR f th 64) sd N M k)) [2] (by decide) rfl
                      have hFc : ∀ zz : Nat, lzA (lzI G (q 7) 64 (drmF (cpR f th 64) sd N M k)) zz → A zz := lz_free hD [2] rfl
                      refine va_calli (va_runS (As := [.ref (q 7), .int (nI (drwV sd M k)), .int (drwQ sd N k)]) (rest := [.int (cntI (drmB (cpR f th 64) sd N M) k)]) ⟨hx, hb, hml, hown, hts⟩ (c_X4_posesU l G (q 7) (drmF (cpR f th 64) sd N M k) (drwV sd M k) (drwQ sd N k) N (Nat.lt_of_lt_of_le (Nat.mod_lt _ hM0) hM5) ((drmF_lo (j := 2) (by decide) k).trans hN) (hN8)) (cwS 3 hts gX4_drawn_X4_poses rfl rfl rfl (by decide +kernel) ⟨Nat.le_of_ble_eq_true rfl, Nat.le_of_ble_eq_true rfl⟩) (rw_pre hK hPc hDc) rfl rfl hl.1 rfl (lv_room (Nat.le_of_ble_eq_true rfl)) dX4_drawn_145 ⟨Nat.zero_le _, Nat.zero_le _⟩) hS (fun q _ h => hFc q h) hFc (fun r_6 u_7 t9 H1 locs ht hvm hr_6 hB hz1 hk1 hS => ?_)
                      replace hB : va_P G.1 lzC _ t9.heap := hB
                      rw [ht] at hB
                      obtain ⟨hP, hD⟩ := lz_join (wc := lzI G (q 7) 64 (drmF (cpR f th 64) sd N M k)) (wr := ([(m, .inr (4, [.int 0, .int (S 1), .ref (q 2), .ref (q 3), .ref (q 4), .ref (q 5), .ref (q 6), .ref (q 7), .ref (q 8), .int (S 9), .ref (q 10), .int (S 11), .int (S 12), .int (S 13), .int (S 14), .int (S 15), .int (S 16), .int (S 17), .int (S 18), .ref (q 19), .ref (q 20), .ref (q 21), .ref (q 22), .int (S 23)])), (q 5, .inl (G.2 0, 64, .inl f))] : va_W)) (w1 := lzI G (q 7) 64 (posR (drmF (cpR f th 64) sd N M k) (drwV sd M k) (drwQ sd N k) N)) hP hD [2] [0, 1] rfl rfl (by decide) (by decide) rfl hk1 hB
                      replace hP := hP.sub (ws' := (lzM m q (upd S 0 0) ++ (lzI G (q 5) 64 f ++ (lzI G (q 7) 64 (posR (drmF (cpR f th 64) sd N M k) (drwV sd M k) (drwQ sd N k) N))))) [0, 1, 2] rfl
                      replace hD := hD.sub (ws' := (lzM m q (upd S 0 0) ++ (lzI G (q 5) 64 f ++ (lzI G (q 7) 64 (posR (drmF (cpR f th 64) sd N M k) (drwV sd M k) (drwQ sd N k) N))))) [0, 1, 2] (by decide) rfl
                      clear ht hvm hB hz1 hk1
                      generalize H1 = H at hP hS ⊢
                      refine lv_if_eq (tgt := 155) hx hb dX4_drawn_148 (by decide) (fun c_148 => ?_) (fun c_148 => ?_)
                      · skip
                        have c_148 := b2_z hr_6 c_148
                        refine lv_iconst (v := 0) hx hb dX4_drawn_155 (by decide) ?_
                        refine lv_iadd hx hb dX4_drawn_156 ?_
                        refine lv_topi (fun x_8 ex_8 => ?_)
                        refine lv_istore (lv' := [(6, .int x_8), (4, .long (lN (lcgN sd (k + 1)))), (7, .int (nI k)), (0, .ref m), (1, .int (nI n)), (2, .int (nI sd)), (3, .int what)]) hx hb dX4_drawn_157 hl (by decide) rfl (fun ls hl => ?_)
                        refine lv_iinc (v := nI (k + 1)) (lv' := [(7, .int (nI (k + 1))), (6, .int x_8), (4, .long (lN (lcgN sd (k + 1)))), (0, .ref m), (1, .int (nI n)), (2, .int (nI sd)), (3, .int what)]) hx hb dX4_drawn_159 hl (k := 2) rfl (nI_1 _) (by decide) rfl (fun ls hl => ?_)
                        refine lv_goto (tgt := 92) hx hb dX4_drawn_162 (by decide) ?_
                        obtain rfl : x_8 = cntI (drmB (cpR f th 64) sd N M) (k + 1) := by rw [ex_8]; have hq := c_148; simp [cntI, b2, drmB, hq]
                        have hE_9 : posR (drmF (cpR f th 64) sd N M k) (drwV sd M k) (drwQ sd N k) N = drmF (cpR f th 64) sd N M (k + 1) := rfl
                        replace hP : va_P G.1 lzC (lzM m q (upd S 0 0) ++ (lzI G (q 5) 64 f ++ (lzI G (q 7) 64 (drmF (cpR f th 64) sd N M (k + 1))))) H := by rw [← hE_9]; exact hP
                        replace hD : va_D A (lzM m q (upd S 0 0) ++ (lzI G (q 5) 64 f ++ (lzI G (q 7) 64 (drmF (cpR f th 64) sd N M (k + 1))))) := by rw [← hE_9]; exact hD
                        exact ih_92 (k + 1) (by omega) (by omega) _ _ hP hD hS _ (lv_sub hl [1, 2, 0, 3, 4, 5, 6] rfl)
                      · skip
                        have c_148 := b2_n hr_6 c_148
                        refine lv_iconst (v := 1) hx hb dX4_drawn_151 (by decide) ?_
                        refine lv_goto (tgt := 156) hx hb dX4_drawn_152 (by decide) ?_
                        refine lv_iadd hx hb dX4_drawn_156 ?_
                        refine lv_topi (fun x_10 ex_10 => ?_)
                        refine lv_istore (lv' := [(6, .int x_10), (4, .long (lN (lcgN sd (k + 1)))), (7, .int (nI k)), (0, .ref m), (1, .int (nI n)), (2, .int (nI sd)), (3, .int what)]) hx hb dX4_drawn_157 hl (by decide) rfl (fun ls hl => ?_)
                        refine lv_iinc (v := nI (k + 1)) (lv' := [(7, .int (nI (k + 1))), (6, .int x_10), (4, .long (lN (lcgN sd (k + 1)))), (0, .ref m), (1, .int (nI n)), (2, .int (nI sd)), (3, .int what)]) hx hb dX4_drawn_159 hl (k := 2) rfl (nI_1 _) (by decide) rfl (fun ls hl => ?_)
                        refine lv_goto (tgt := 92) hx hb dX4_drawn_162 (by decide) ?_
                        obtain rfl : x_10 = cntI (drmB (cpR f th 64) sd N M) (k + 1) := by rw [ex_10]; have hq := c_148; simp [cntI, b2, drmB, hq]
                        have hE_11 : posR (drmF (cpR f th 64) sd N M k) (drwV sd M k) (drwQ sd N k) N = drmF (cpR f th 64) sd N M (k + 1) := rfl
                        replace hP : va_P G.1 lzC (lzM m q (upd S 0 0) ++ (lzI G (q 5) 64 f ++ (lzI G (q 7) 64 (drmF (cpR f th 64) sd N M (k + 1))))) H := by rw [← hE_11]; exact hP
                        replace hD : va_D A (lzM m q (upd S 0 0) ++ (lzI G (q 5) 64 f ++ (lzI G (q 7) 64 (drmF (cpR f th 64) sd N M (k + 1))))) := by rw [← hE_11]; exact hD
                        exact ih_92 (k + 1) (by omega) (by omega) _ _ hP hD hS _ (lv_sub hl [1, 2, 0, 3, 4, 5, 6] rfl)
                rw [show (0 : Int32) = cntI (drmB (cpR f th 64) sd N M) 0 from rfl] at hl
                have hE_12 : cpR f th k = drmF (cpR f th 64) sd N M 0 := by rw [hk4]; rfl
                replace hP : va_P G.1 lzC (lzM m q (upd S 0 0) ++ (lzI G (q 5) 64 f ++ (lzI G (q 7) 64 (drmF (cpR f th 64) sd N M 0)))) H := by rw [← hE_12]; exact hP
                replace hD : va_D A (lzM m q (upd S 0 0) ++ (lzI G (q 5) 64 f ++ (lzI G (q 7) 64 (drmF (cpR f th 64) sd N M 0)))) := by rw [← hE_12]; exact hD
                exact J_92 _ 0 (by omega) (Nat.lt_succ_self _) _ _ hP hD hS _ (lv_sub hl [1, 2, 0, 3, 4, 5, 6] rfl)
              · skip
                have c_59' := Int32.not_le.mp c_59
                have hk2 : k < 64 := lz_lt (N := 64) rfl c_59 (by omega) (by omega)
                refine lv_aload_n hx hb dX4_drawn_62 rfl (lv_at hl 1 rfl) ?_
                refine lz_get (G := G) (ci := 4) (v := .ref (q 7)) (C := RX4) (T := TX4) (N := 24) hx hb hu_wsX40 (fun _ h9 => h9) hown hK hP 0 rfl rfl 7 (by decide) hw6 rfl rfl dX4_drawn_63 ?_
                refine lv_iload hx hb dX4_drawn_66 (lv_at hl 0 rfl) ?_
                refine lv_aload_n hx hb dX4_drawn_68 rfl (lv_at hl 1 rfl) ?_
                refine lz_get (G := G) (ci := 4) (v := .ref (q 5)) (C := RX4) (T := TX4) (N := 24) hx hb hu_wsX40 (fun _ h9 => h9) hown hK hP 0 rfl rfl 5 (by decide) hw7 rfl rfl dX4_drawn_69 ?_
                refine lv_iload hx hb dX4_drawn_72 (lv_at hl 0 rfl) ?_
                refine lz_iald (f := f) hx hb hK hP 1 rfl k (by omega) (Nat.le_of_ble_eq_true rfl) dX4_drawn_74 ?_
                refine lz_iast (f := cpR f th k) hx hb hK hP hD hS 2 rfl k (by omega) (Nat.le_of_ble_eq_true rfl) dX4_drawn_75 (lzM m q (upd S 0 0) ++ (lzI G (q 5) 64 f ++ (lzI G (q 7) 64 (upd (cpR f th k) k (f k))))) rfl (fun H locs hP hD hS => ?_)
                refine lv_iinc (v := nI (k + 1)) (lv' := [(4, .int (nI (k + 1))), (0, .ref m), (1, .int (nI n)), (2, .int (nI sd)), (3, .int what)]) hx hb dX4_drawn_76 hl (k := 0) rfl (nI_1 _) (by decide) rfl (fun ls hl => ?_)
                refine lv_goto (tgt := 55) hx hb dX4_drawn_79 (by decide) ?_
                have hE_13 : upd (cpR f th k) k (f k) = cpR f th (k + 1) := cpR_s _ _ _
                replace hP : va_P G.1 lzC (lzM m q (upd S 0 0) ++ (lzI G (q 5) 64 f ++ (lzI G (q 7) 64 (cpR f th (k + 1))))) H := by rw [← hE_13]; exact hP
                replace hD : va_D A (lzM m q (upd S 0 0) ++ (lzI G (q 5) 64 f ++ (lzI G (q 7) 64 (cpR f th (k + 1))))) := by rw [← hE_13]; exact hD
                exact ih_55 (k + 1) (by omega) (by omega) _ _ hP hD hS _ (lv_sub hl [0, 1, 2, 3, 4] rfl)
          have hE_14 : th = cpR f th 0 := (cpR_0 _ _).symm
          replace hP : va_P G.1 lzC (lzM m q (upd S 0 0) ++ (lzI G (q 5) 64 f ++ (lzI G (q 7) 64 (cpR f th 0)))) H := by rw [← hE_14]; exact hP
          replace hD : va_D A (lzM m q (upd S 0 0) ++ (lzI G (q 5) 64 f ++ (lzI G (q 7) 64 (cpR f th 0)))) := by rw [← hE_14]; exact hD
          exact J_55 _ 0 (by omega) (Nat.lt_succ_self _) _ _ hP hD hS _ (lv_sub hl [0, 1, 2, 3, 4] rfl)
        · skip
          have c_46 := b2_z hr_4 c_46
          exact Bool.noConfusion (hwL.symm.trans c_46)
  · skip
    have c_9 := b2_z hr_1 c_9
    exact Bool.noConfusion (hR.symm.trans c_9)
set_option maxHeartbeats 4000000 in
set_option maxRecDepth 100000 in
theorem c_X4_slip_ok (l : Launch) (G : lzG) (m : Nat) (q : Nat → Nat) (S : Nat → Int32) (f : Nat → Int32) (wy : Nat → Int64) (v : Nat) (set : Int32) (P : Nat) (what : Int32) (N M T : Nat) (hN : f 2 = nI N) (hN8 : N ≤ 8) (hM : f 3 = nI M) (hM5 : M ≤ 5) (hv : v < M) (hset : inR set 0 ((1 <<< (f 2 &&& 31)) - 1) = true) (hPt : P ≤ 10) (hb3 : inR (nI P) 0 10 = true) (hw : inR what 0 1 = true) (hT : f 1 = nI T) (hT8 : T ≤ 8) : Met l yX4_slip wsX4_slip ({ frames := 4, cells := 0, slots := 0, locals := 90 }) (va_Pc [.ref m, .int (nI v), .int set, .int (nI P), .int what] (rwP G (lzM m q S ++ (lzI G (q 5) 64 f ++ (lzL G (q 19) 9 wy))))) (va_Ql (S := Unit) (fun (r : Int64) (_ : Unit) => r = if what = 0 then lN ((sumN (csN P (fun s => hasI set s && cntM f s) (wrgM f v) N) (T + 1)) / Nat.gcd (sumN (csN P (fun s => hasI set s && cntM f s) (wrgM f v) N) (T + 1)) (pwN (fun s => hasI set s && cntM f s) N)) else lN ((pwN (fun s => hasI set s && cntM f s) N) / Nat.gcd (sumN (csN P (fun s => hasI set s && cntM f s) (wrgM f v) N) (T + 1)) (pwN (fun s => hasI set s && cntM f s) N))) (rwB G (fun _ : Unit => (lzM m q (upd S 0 0) ++ (lzI G (q 5) 64 f ++ (lzL G (q 19) 9 (arrW wy (csN P (fun s => hasI set s && cntM f s) (wrgM f v) N))))))) (lzA (lzM m q S ++ (lzI G (q 5) 64 f ++ (lzL G (q 19) 9 wy))))) 0 0 (lzA (lzM m q S ++ (lzI G (q 5) 64 f ++ (lzL G (q 19) 9 wy)))) := by
  have hA : inR (nI v) 0 (f 3 - 1) = true := inR_ok hM hv (by omega)
  have hwL : inL what.toInt64 0 1 = true := (inL_of what 0 1).trans hw
  have hb3L : inL (nI P).toInt64 0 10 = true := (inL_of (nI P) 0 10).trans hb3
  refine rw_start (S := Unit) (cc := cX4_slip) (maxL := 15) (ret := (some .long)) (by decide) rfl (Nat.le_of_ble_eq_true rfl) ?_
  intro pp ee ss mm bl me cd A hx hb hr hlk hml hts hown hP hK hD hAe hS ls hl
  have hA0 : ∀ zz : Nat, lzA (lzM m q S ++ (lzI G (q 5) 64 f ++ (lzL G (q 19) 9 wy))) zz → A zz := fun zz h9 => by rw [hAe]; exact h9
  rw [← hAe]
  clear hAe
  have hown : ss.vm.findClass RX4 = some mm.cls := hown
  have hw1 := hts (.fieldLink RX4 48 "LampSquaresModel" "thrown" "I") (List.mem_of_getElem? (i := 1) rfl)
  have hw2 := hts (.constantLong RX4 240 (10)) (List.mem_of_getElem? (i := 2) rfl)
  have hw4 := hts (.fieldLink RX4 34 "LampSquaresModel" "ways" "[J") (List.mem_of_getElem? (i := 4) rfl)
  have hw5 := hts (.fieldLink RX4 19 "LampSquaresModel" "door" "[I") (List.mem_of_getElem? (i := 5) rfl)
  have hu_wsX40 : ∀ w ∈ wsX40, w.before ([.ref m, .int (nI v), .int set, .int (nI P), .int what] : List Value).toArray ss = true := fun w h9 => hts w (List.mem_cons_of_mem _ (List.mem_append_right _ h9))
  have hl : lv_has ls 15 [(0, .ref m), (1, .int (nI v)), (2, .int set), (3, .int (nI P)), (4, .int what)] := hl
  refine lv_aload_n hx hb dX4_slip_0 rfl (lv_at hl 0 rfl) ?_
  refine lv_iconst (v := 0) hx hb dX4_slip_1 (by decide) ?_
  refine lz_put (G := G) (ci := 4) (C := RX4) (T := TX4) (N := 24) hx hb hu_wsX40 (fun _ h9 => h9) tyX4 tyX4_ok nmX4 hown hK hP hD hS 0 rfl rfl 0 (by decide) hw1 rfl rfl (by decide +kernel) (Nat.le_of_ble_eq_true rfl) dX4_slip_2 (lzM m q (upd S 0 0) ++ (lzI G (q 5) 64 f ++ (lzL G (q 19) 9 wy))) rfl (fun H locs hP hD hS => ?_)
  refine lv_aload_n hx hb dX4_slip_5 rfl (lv_at hl 0 rfl) ?_
  refine lv_iload_n hx hb dX4_slip_6 rfl (lv_at hl 1 rfl) ?_
  have hPc := hP.sub (ws' := (lzM m q (upd S 0 0) ++ lzI G (q 5) 64 f)) [0, 1] rfl
  refine ro_calli (va_runV (As := [.int (nI v)]) (rest := []) ⟨hx, hb, hml, hown, hts⟩ (c_X4_isVisitor l G m q (upd S 0 0) f (nI v) ) (cwV 1 hts gX4_slip_X4_isVisitor rfl rfl rfl (by decide +kernel) ⟨Nat.le_of_ble_eq_true rfl, Nat.le_of_ble_eq_true rfl⟩) (ro_preV hK hPc hP (ci := 4) (q0 := 0) rfl rfl) rfl rfl hl.1 rfl (lv_room (Nat.le_of_ble_eq_true rfl)) dX4_slip_7 ⟨Nat.zero_le _, Nat.zero_le _⟩) (fun r_1 hr_1 => ?_)
  refine lv_if_eq (tgt := 44) hx hb dX4_slip_10 (by decide) (fun c_10 => ?_) (fun c_10 => ?_)
  · skip
    have c_10 := b2_z hr_1 c_10
    exact Bool.noConfusion (hA.symm.trans c_10)
  · skip
    have c_10 := b2_n hr_1 c_10
    refine lv_aload_n hx hb dX4_slip_13 rfl (lv_at hl 0 rfl) ?_
    refine lv_iload_n hx hb dX4_slip_14 rfl (lv_at hl 2 rfl) ?_
    have hPc := hP.sub (ws' := (lzM m q (upd S 0 0) ++ lzI G (q 5) 64 f)) [0, 1] rfl
    refine ro_calli (va_runV (As := [.int set]) (rest := []) ⟨hx, hb, hml, hown, hts⟩ (c_X4_areSquares l G m q (upd S 0 0) f set ) (cwV 1 hts gX4_slip_X4_areSquares rfl rfl rfl (by decide +kernel) ⟨Nat.le_of_ble_eq_true rfl, Nat.le_of_ble_eq_true rfl⟩) (ro_preV hK hPc hP (ci := 4) (q0 := 0) rfl rfl) rfl rfl hl.1 rfl (lv_room (Nat.le_of_ble_eq_true rfl)) dX4_slip_15 ⟨Nat.zero_le _, Nat.zero_le _⟩) (fun r_2 hr_2 => ?_)
    refine lv_if_eq (tgt := 44) hx hb dX4_slip_18 (by decide) (fun c_18 => ?_) (fun c_18 => ?_)
    · skip
      have c_18 := b2_z hr_2 c_18
      exact Bool.noConfusion (hset.symm.trans c_18)
    · skip
      have c_18 := b2_n hr_2 c_18
      refine lv_iload_n hx hb dX4_slip_21 rfl (lv_at hl 3 rfl) ?_
      refine lv_i2l hx hb dX4_slip_22 rfl ?_
      refine lv_lconst (v := 0) hx hb dX4_slip_23 (by decide) ?_
      refine lv_ldc2 hx hb hown hw2 dX4_slip_24 ?_
      refine ro_calli (va_runS (As := [.long ((nI P).toInt64), .long 0, .long 10]) (rest := []) ⟨hx, hb, hml, hown, hts⟩ (c_X4_in l G ((nI P).toInt64) 0 10 ) (cwS 3 hts gX4_slip_X4_in rfl rfl rfl (by decide +kernel) ⟨Nat.le_of_ble_eq_true rfl, Nat.le_of_ble_eq_true rfl⟩) (ro_pre hK (fun k q h => by simp at h)) rfl rfl hl.1 rfl (lv_room (Nat.le_of_ble_eq_true rfl)) dX4_slip_27 ⟨Nat.zero_le _, Nat.zero_le _⟩) (fun r_3 hr_3 => ?_)
      refine lv_if_eq (tgt := 44) hx hb dX4_slip_30 (by decide) (fun c_30 => ?_) (fun c_30 => ?_)
      · skip
        have c_30 := b2_z hr_3 c_30
        exact Bool.noConfusion (hb3L.symm.trans c_30)
      · skip
        have c_30 := b2_n hr_3 c_30
        refine lv_iload hx hb dX4_slip_33 (lv_at hl 4 rfl) ?_
        refine lv_i2l hx hb dX4_slip_35 rfl ?_
        refine lv_lconst (v := 0) hx hb dX4_slip_36 (by decide) ?_
        refine lv_lconst (v := 1) hx hb dX4_slip_37 (by decide) ?_
        refine ro_calli (va_runS (As := [.long what.toInt64, .long 0, .long 1]) (rest := []) ⟨hx, hb, hml, hown, hts⟩ (c_X4_in l G what.toInt64 0 1 ) (cwS 3 hts gX4_slip_X4_in rfl rfl rfl (by decide +kernel) ⟨Nat.le_of_ble_eq_true rfl, Nat.le_of_ble_eq_true rfl⟩) (ro_pre hK (fun k q h => by simp at h)) rfl rfl hl.1 rfl (lv_room (Nat.le_of_ble_eq_true rfl)) dX4_slip_38 ⟨Nat.zero_le _, Nat.zero_le _⟩) (fun r_4 hr_4 => ?_)
        refine lv_if_ne (tgt := 48) hx hb dX4_slip_41 (by decide) (fun c_41 => ?_) (fun c_41 => ?_)
        · skip
          have c_41 := b2_n hr_4 c_41
          refine lv_iconst (v := 0) hx hb dX4_slip_48 (by decide) ?_
          refine lv_istore (lv' := [(5, .int 0), (0, .ref m), (1, .int (nI v)), (2, .int set), (3, .int (nI P)), (4, .int what)]) hx hb dX4_slip_49 hl (by decide) rfl (fun ls hl => ?_)
          have J_51 : ∀ (n9 : Nat), ∀ (k : Nat), (k ≤ 9) → 9 - k < n9 → ∀ (H : Heap) (locs : List Loc), va_P G.1 lzC (lzM m q (upd S 0 0) ++ (lzI G (q 5) 64 f ++ (lzL G (q 19) 9 (ivW wy k)))) H → va_D A (lzM m q (upd S 0 0) ++ (lzI G (q 5) 64 f ++ (lzL G (q 19) 9 (ivW wy k)))) → va_S A ss.heap H locs → ∀ ls : Array Slot, lv_has ls 15 [(5, .int (nI k)), (0, .ref m), (1, .int (nI v)), (2, .int set), (3, .int (nI P)), (4, .int what)] → W pp l ee ({ frames := 4, cells := 0, slots := 0, locals := 90 }) ss mm ([.ref m, .int (nI v), .int set, .int (nI P), .int what] : List Value).toArray bl me cd H locs 0 0 (MQ bl (va_Ql (S := Unit) (fun (r : Int64) (_ : Unit) => r = if what = 0 then lN ((sumN (csN P (fun s => hasI set s && cntM f s) (wrgM f v) N) (T + 1)) / Nat.gcd (sumN (csN P (fun s => hasI set s && cntM f s) (wrgM f v) N) (T + 1)) (pwN (fun s => hasI set s && cntM f s) N)) else lN ((pwN (fun s => hasI set s && cntM f s) N) / Nat.gcd (sumN (csN P (fun s => hasI set s && cntM f s) (wrgM f v) N) (T + 1)) (pwN (fun s => hasI set s && cntM f s) N))) (rwB G (fun _ : Unit => (lzM m q (upd S 0 0) ++ (lzI G (q 5) 64 f ++ (lzL G (q 19) 9 (arrW wy (csN P (fun s => hasI set s && cntM f s) (wrgM f v) N))))))) A) ([.ref m, .int (nI v), .int set, .int (nI P), .int what] : List Value).toArray ss 0 0 A) (F0 mm 51 ls []) := by
            intro n9
            induction n9 with
            | zero => intro k hk hn; exact absurd hn (Nat.not_lt_zero _)
            | succ n9 ih_51 =>
              intro k hk hn_51 H locs hP hD hS ls hl
              refine lv_iload hx hb dX4_slip_51 (lv_at hl 0 rfl) ?_
              refine lv_bipush (v := 9) hx hb dX4_slip_53 (by decide) ?_
              refine lv_icmp_ge (tgt := 81) hx hb dX4_slip_55 (by decide) (fun c_55 => ?_) (fun c_55 => ?_)
              · skip
                have c_55' := Int32.not_lt.mpr c_55
                have hk2 : 9 ≤ k := lz_ge (N := 9) rfl c_55 (by omega) (by omega)
                have hk4 : k = 9 := by omega
                refine lv_lconst (v := 1) hx hb dX4_slip_81 (by decide) ?_
                refine lv_lstore (lv' := [(5, .long 1), (0, .ref m), (1, .int (nI v)), (2, .int set), (3, .int (nI P)), (4, .int what)]) hx hb dX4_slip_82 hl (by decide) rfl (fun ls hl => ?_)
                refine lv_iconst (v := 0) hx hb dX4_slip_84 (by decide) ?_
                refine lv_istore (lv' := [(7, .int 0), (5, .long 1), (0, .ref m), (1, .int (nI v)), (2, .int set), (3, .int (nI P)), (4, .int what)]) hx hb dX4_slip_85 hl (by decide) rfl (fun ls hl => ?_)
                have J_87 : ∀ (n9 : Nat), ∀ (k : Nat), (k ≤ N) → N - k < n9 → ∀ (H : Heap) (locs : List Loc), va_P G.1 lzC (lzM m q (upd S 0 0) ++ (lzI G (q 5) 64 f ++ (lzL G (q 19) 9 (arrW wy (csN P (fun s => hasI set s && cntM f s) (wrgM f v) k))))) H → va_D A (lzM m q (upd S 0 0) ++ (lzI G (q 5) 64 f ++ (lzL G (q 19) 9 (arrW wy (csN P (fun s => hasI set s && cntM f s) (wrgM f v) k))))) → va_S A ss.heap H locs → ∀ ls : Array Slot, lv_has ls 15 [(5, .long (lN (pwN (fun s => hasI set s && cntM f s) k))), (7, .int (nI k)), (0, .ref m), (1, .int (nI v)), (2, .int set), (3, .int (nI P)), (4, .int what)] → W pp l ee ({ frames := 4, cells := 0, slots := 0, locals := 90 }) ss mm ([.ref m, .int (nI v), .int set, .int (nI P), .int what] : List Value).toArray bl me cd H locs 0 0 (MQ bl (va_Ql (S := Unit) (fun (r : Int64) (_ : Unit) => r = if what = 0 then lN ((sumN (csN P (fun s => hasI set s && cntM f s) (wrgM f v) N) (T + 1)) / Nat.gcd (sumN (csN P (fun s => hasI set s && cntM f s) (wrgM f v) N) (T + 1)) (pwN (fun s => hasI set s && cntM f s) N)) else lN ((pwN (fun s => hasI set s && cntM f s) N) / Nat.gcd (sumN (csN P (fun s => hasI set s && cntM f s) (wrgM f v) N) (T + 1)) (pwN (fun s => hasI set s && cntM f s) N))) (rwB G (fun _ : Unit => (lzM m q (upd S 0 0) ++ (lzI G (q 5) 64 f ++ (lzL G (q 19) 9 (arrW wy (csN P (fun s => hasI set s && cntM f s) (wrgM f v) N))))))) A) ([.ref m, .int (nI v), .int set, .int (nI P), .int what] : List Value).toArray ss 0 0 A) (F0 mm 87 ls []) := by
                  intro n9
                  induction n9 with
                  | zero => intro k hk hn; exact absurd hn (Nat.not_lt_zero _)
                  | succ n9 ih_87 =>
                    intro k hk hn_87 H locs hP hD hS ls hl
                    refine lv_iload hx hb dX4_slip_87 (lv_at hl 1 rfl) ?_
                    refine lv_aload_n hx hb dX4_slip_89 rfl (lv_at hl 2 rfl) ?_
                    refine lz_get (G := G) (ci := 4) (v := .ref (q 5)) (C := RX4) (T := TX4) (N := 24) hx hb hu_wsX40 (fun _ h9 => h9) hown hK hP 0 rfl rfl 5 (by decide) hw5 rfl rfl dX4_slip_90 ?_
                    refine lv_iconst (v := 2) hx hb dX4_slip_93 (by decide) ?_
                    refine lz_iald (f := f) hx hb hK hP 1 rfl 2 (by omega) (Nat.le_of_ble_eq_true rfl) dX4_slip_94 ?_
                    refine lv_icmp_ge (tgt := 215) hx hb dX4_slip_95 (by decide) (fun c_95 => ?_) (fun c_95 => ?_)
                    · skip
                      have c_95' := Int32.not_lt.mpr c_95
                      have hk2 : N ≤ k := lz_ge hN c_95 (by omega) (by omega)
                      have hk5 : k = N := by omega
                      rw [hk5] at hP hD hl
                      refine lv_lconst (v := 0) hx hb dX4_slip_215 (by decide) ?_
                      refine lv_lstore (lv' := [(7, .long 0), (5, .long (lN (pwN (fun s => hasI set s && cntM f s) N))), (0, .ref m), (1, .int (nI v)), (2, .int set), (3, .int (nI P)), (4, .int what)]) hx hb dX4_slip_216 hl (by decide) rfl (fun ls hl => ?_)
                      refine lv_iconst (v := 0) hx hb dX4_slip_218 (by decide) ?_
                      refine lv_istore (lv' := [(9, .int 0), (7, .long 0), (5, .long (lN (pwN (fun s => hasI set s && cntM f s) N))), (0, .ref m), (1, .int (nI v)), (2, .int set), (3, .int (nI P)), (4, .int what)]) hx hb dX4_slip_219 hl (by decide) rfl (fun ls hl => ?_)
                      have J_221 : ∀ (n9 : Nat), ∀ (j1 : Nat), (j1 ≤ T + 1) → T + 1 - j1 < n9 → ∀ (H : Heap) (locs : List Loc), va_P G.1 lzC (lzM m q (upd S 0 0) ++ (lzI G (q 5) 64 f ++ (lzL G (q 19) 9 (arrW wy (csN P (fun s => hasI set s && cntM f s) (wrgM f v) N))))) H → va_D A (lzM m q (upd S 0 0) ++ (lzI G (q 5) 64 f ++ (lzL G (q 19) 9 (arrW wy (csN P (fun s => hasI set s && cntM f s) (wrgM f v) N))))) → va_S A ss.heap H locs → ∀ ls : Array Slot, lv_has ls 15 [(7, .long (lN (sumN (csN P (fun s => hasI set s && cntM f s) (wrgM f v) N) j1))), (9, .int (nI j1)), (5, .long (lN (pwN (fun s => hasI set s && cntM f s) N))), (0, .ref m), (1, .int (nI v)), (2, .int set), (3, .int (nI P)), (4, .int what)] → W pp l ee ({ frames := 4, cells := 0, slots := 0, locals := 90 }) ss mm ([.ref m, .int (nI v), .int set, .int (nI P), .int what] : List Value).toArray bl me cd H locs 0 0 (MQ bl (va_Ql (S := Unit) (fun (r : Int64) (_ : Unit) => r = if what = 0 then lN ((sumN (csN P (fun s => hasI set s && cntM f s) (wrgM f v) N) (T + 1)) / Nat.gcd (sumN (csN P (fun s => hasI set s && cntM f s) (wrgM f v) N) (T + 1)) (pwN (fun s => hasI set s && cntM f s) N)) else lN ((pwN (fun s => hasI set s && cntM f s) N) / Nat.gcd (sumN (csN P (fun s => hasI set s && cntM f s) (wrgM f v) N) (T + 1)) (pwN (fun s => hasI set s && cntM f s) N))) (rwB G (fun _ : Unit => (lzM m q (upd S 0 0) ++ (lzI G (q 5) 64 f ++ (lzL G (q 19) 9 (arrW wy (csN P (fun s => hasI set s && cntM f s) (wrgM f v) N))))))) A) ([.ref m, .int (nI v), .int set, .int (nI P), .int what] : List Value).toArray ss 0 0 A) (F0 mm 221 ls []) := by
                        intro n9
                        induction n9 with
                        | zero => intro j1 hj1 hn; exact absurd hn (Nat.not_lt_zero _)
                        | succ n9 ih_221 =>
                          intro j1 hj1 hn_221 H locs hP hD hS ls hl
                          refine lv_iload hx hb dX4_slip_221 (lv_at hl 1 rfl) ?_
                          refine lv_aload_n hx hb dX4_slip_223 rfl (lv_at hl 3 rfl) ?_
                          refine lz_get (G := G) (ci := 4) (v := .ref (q 5)) (C := RX4) (T := TX4) (N := 24) hx hb hu_wsX40 (fun _ h9 => h9) hown hK hP 0 rfl rfl 5 (by decide) hw5 rfl rfl dX4_slip_224 ?_
                          refine lv_iconst (v := 1) hx hb dX4_slip_227 (by decide) ?_
                          refine lz_iald (f := f) hx hb hK hP 1 rfl 1 (by omega) (Nat.le_of_ble_eq_true rfl) dX4_slip_228 ?_
                          refine lv_icmp_gt (tgt := 250) hx hb dX4_slip_229 (by decide) (fun c_229 => ?_) (fun c_229 => ?_)
                          · skip
                            have c_229' := Int32.not_le.mpr c_229
                            have hk2 : ¬ j1 ≤ T := fun h8 => absurd (by rw [hT]; exact nI_le h8 (by omega)) (Int32.not_le.mpr c_229)
                            have hk6 : j1 = T + 1 := by omega
                            have hA63 := slip_A (N := N) (T := T) hPt hN8 hT8 (fun s => hasI set s && cntM f s) (wrgM f v)
                            have hB63 := slip_B (N := N) hN8 (fun s => hasI set s && cntM f s)
                            rw [hk6] at hl
                            refine lv_lload hx hb dX4_slip_250 (lv_at hl 0 rfl) ?_
                            refine lv_lstore (lv' := [(9, .long (lN (sumN (csN P (fun s => hasI set s && cntM f s) (wrgM f v) N) (T + 1)))), (7, .long (lN (sumN (csN P (fun s => hasI set s && cntM f s) (wrgM f v) N) (T + 1)))), (5, .long (lN (pwN (fun s => hasI set s && cntM f s) N))), (0, .ref m), (1, .int (nI v)), (2, .int set), (3, .int (nI P)), (4, .int what)]) hx hb dX4_slip_252 hl (by decide) rfl (fun ls hl => ?_)
                            refine lv_lload hx hb dX4_slip_254 (lv_at hl 2 rfl) ?_
                            refine lv_lstore (lv' := [(11, .long (lN (pwN (fun s => hasI set s && cntM f s) N))), (9, .long (lN (sumN (csN P (fun s => hasI set s && cntM f s) (wrgM f v) N) (T + 1)))), (7, .long (lN (sumN (csN P (fun s => hasI set s && cntM f s) (wrgM f v) N) (T + 1)))), (5, .long (lN (pwN (fun s => hasI set s && cntM f s) N))), (0, .ref m), (1, .int (nI v)), (2, .int set), (3, .int (nI P)), (4, .int what)]) hx hb dX4_slip_256 hl (by decide) rfl (fun ls hl => ?_)
                            have J_258 : ∀ (n9 : Nat), ∀ (a1 : Nat) (b1 : Nat), (a1 < 2 ^ 63) → (b1 < 2 ^ 63) → (Nat.gcd a1 b1 = Nat.gcd (sumN (csN P (fun s => hasI set s && cntM f s) (wrgM f v) N) (T + 1)) (pwN (fun s => hasI set s && cntM f s) N)) → b1 < n9 → ∀ (H : Heap) (locs : List Loc), va_P G.1 lzC (lzM m q (upd S 0 0) ++ (lzI G (q 5) 64 f ++ (lzL G (q 19) 9 (arrW wy (csN P (fun s => hasI set s && cntM f s) (wrgM f v) N))))) H → va_D A (lzM m q (upd S 0 0) ++ (lzI G (q 5) 64 f ++ (lzL G (q 19) 9 (arrW wy (csN P (fun s => hasI set s && cntM f s) (wrgM f v) N))))) → va_S A ss.heap H locs → ∀ ls : Array Slot, lv_has ls 15 [(9, .long (lN a1)), (11, .long (lN b1)), (7, .long (lN (sumN (csN P (fun s => hasI set s && cntM f s) (wrgM f v) N) (T + 1)))), (5, .long (lN (pwN (fun s => hasI set s && cntM f s) N))), (0, .ref m), (1, .int (nI v)), (2, .int set), (3, .int (nI P)), (4, .int what)] → W pp l ee ({ frames := 4, cells := 0, slots := 0, locals := 90 }) ss mm ([.ref m, .int (nI v), .int set, .int (nI P), .int what] : List Value).toArray bl me cd H locs 0 0 (MQ bl (va_Ql (S := Unit) (fun (r : Int64) (_ : Unit) => r = if what = 0 then lN ((sumN (csN P (fun s => hasI set s && cntM f s) (wrgM f v) N) (T + 1)) / Nat.gcd (sumN (csN P (fun s => hasI set s && cntM f s) (wrgM f v) N) (T + 1)) (pwN (fun s => hasI set s && cntM f s) N)) else lN ((pwN (fun s => hasI set s && cntM f s) N) / Nat.gcd (sumN (csN P (fun s => hasI set s && cntM f s) (wrgM f v) N) (T + 1)) (pwN (fun s => hasI set s && cntM f s) N))) (rwB G (fun _ : Unit => (lzM m q (upd S 0 0) ++ (lzI G (q 5) 64 f ++ (lzL G (q 19) 9 (arrW wy (csN P (fun s => hasI set s && cntM f s) (wrgM f v) N))))))) A) ([.ref m, .int (nI v), .int set, .int (nI P), .int what] : List Value).toArray ss 0 0 A) (F0 mm 258 ls []) := by
                              intro n9
                              induction n9 with
                              | zero => intro a1 b1 ha1 hb1 hg hn; exact absurd hn (Nat.not_lt_zero _)
                              | succ n9 ih_258 =>
                                intro a1 b1 ha1 hb1 hg hn_258 H locs hP hD hS ls hl
                                refine lv_lload hx hb dX4_slip_258 (lv_at hl 1 rfl) ?_
                                refine lv_lconst (v := 0) hx hb dX4_slip_260 (by decide) ?_
                                refine W.lcmp hx hb dX4_slip_261 ?_
                                refine lv_if_eq (tgt := 283) hx hb dX4_slip_262 (by decide) (fun c_262 => ?_) (fun c_262 => ?_)
                                · skip
                                  have c_262 := (lg_e _ _).mp c_262
                                  have hb0 : b1 = 0 := (pk_lEQ (b := 0) hb1 (by decide)).mp c_262
                                  have hga : a1 = Nat.gcd (sumN (csN P (fun s => hasI set s && cntM f s) (wrgM f v) N) (T + 1)) (pwN (fun s => hasI set s && cntM f s) N) := by rw [← hg, hb0, Nat.gcd_zero_right]
                                  have hap : 0 < a1 := by rw [hga]; exact Nat.gcd_pos_of_pos_right _ (pw_le (fun s => hasI set s && cntM f s) N).1
                                  refine lv_iload hx hb dX4_slip_283 (lv_at hl 8 rfl) ?_
                                  refine lv_if_ne (tgt := 293) hx hb dX4_slip_285 (by decide) (fun c_285 => ?_) (fun c_285 => ?_)
                                  · skip
                                    refine lv_lload hx hb dX4_slip_293 (lv_at hl 3 rfl) ?_
                                    refine lv_lload hx hb dX4_slip_295 (lv_at hl 0 rfl) ?_
                                    refine lv_ldiv hx hb dX4_slip_297 (fun h9 => absurd ((pk_lEQ (b := 0) ha1 (by decide)).mp h9) (by omega)) ?_
                                    refine lz_topl (y := lN ((pwN (fun s => hasI set s && cntM f s) N) / a1)) (pk_lDiv hB63 hap ha1) ?_
                                    exact rw_lret (S := Unit) (G := G) (Wd := fun _ : Unit => (lzM m q (upd S 0 0) ++ (lzI G (q 5) 64 f ++ (lzL G (q 19) 9 (arrW wy (csN P (fun s => hasI set s && cntM f s) (wrgM f v) N)))))) () hx hb hr hlk dX4_slip_298 hS (hP) (by rw [← hga]; first | rw [if_pos c_285] | rw [if_neg c_285])
                                  · skip
                                    refine lv_lload hx hb dX4_slip_288 (lv_at hl 2 rfl) ?_
                                    refine lv_goto (tgt := 295) hx hb dX4_slip_290 (by decide) ?_
                                    refine lv_lload hx hb dX4_slip_295 (lv_at hl 0 rfl) ?_
                                    refine lv_ldiv hx hb dX4_slip_297 (fun h9 => absurd ((pk_lEQ (b := 0) ha1 (by decide)).mp h9) (by omega)) ?_
                                    refine lz_topl (y := lN ((sumN (csN P (fun s => hasI set s && cntM f s) (wrgM f v) N) (T + 1)) / a1)) (pk_lDiv hA63 hap ha1) ?_
                                    exact rw_lret (S := Unit) (G := G) (Wd := fun _ : Unit => (lzM m q (upd S 0 0) ++ (lzI G (q 5) 64 f ++ (lzL G (q 19) 9 (arrW wy (csN P (fun s => hasI set s && cntM f s) (wrgM f v) N)))))) () hx hb hr hlk dX4_slip_298 hS (hP) (by rw [← hga]; first | rw [if_pos c_285] | rw [if_neg c_285])
                                · skip
                                  have c_262 := mt (lg_e _ _).mpr c_262
                                  have hbp : 0 < b1 := Nat.pos_of_ne_zero (fun h9 => c_262 (by rw [h9]; rfl))
                                  refine lv_lload hx hb dX4_slip_265 (lv_at hl 0 rfl) ?_
                                  refine lv_lload hx hb dX4_slip_267 (lv_at hl 1 rfl) ?_
                                  refine lv_lrem hx hb dX4_slip_269 (fun h9 => absurd ((pk_lEQ (b := 0) hb1 (by decide)).mp h9) (by omega)) ?_
                                  refine lz_topl (y := lN (a1 % b1)) (pk_lRem ha1 hbp hb1) ?_
                                  refine lv_lstore (lv' := [(13, .long (lN (a1 % b1))), (9, .long (lN a1)), (11, .long (lN b1)), (7, .long (lN (sumN (csN P (fun s => hasI set s && cntM f s) (wrgM f v) N) (T + 1)))), (5, .long (lN (pwN (fun s => hasI set s && cntM f s) N))), (0, .ref m), (1, .int (nI v)), (2, .int set), (3, .int (nI P)), (4, .int what)]) hx hb dX4_slip_270 hl (by decide) rfl (fun ls hl => ?_)
                                  refine lv_lload hx hb dX4_slip_272 (lv_at hl 2 rfl) ?_
                                  refine lv_topl (fun x_5 ex_5 => ?_)
                                  refine lv_lstore (lv' := [(9, .long x_5), (13, .long (lN (a1 % b1))), (11, .long (lN b1)), (7, .long (lN (sumN (csN P (fun s => hasI set s && cntM f s) (wrgM f v) N) (T + 1)))), (5, .long (lN (pwN (fun s => hasI set s && cntM f s) N))), (0, .ref m), (1, .int (nI v)), (2, .int set), (3, .int (nI P)), (4, .int what)]) hx hb dX4_slip_274 hl (by decide) rfl (fun ls hl => ?_)
                                  refine lv_lload hx hb dX4_slip_276 (lv_at hl 1 rfl) ?_
                                  refine lv_topl (fun x_6 ex_6 => ?_)
                                  refine lv_lstore (lv' := [(11, .long x_6), (9, .long x_5), (13, .long (lN (a1 % b1))), (7, .long (lN (sumN (csN P (fun s => hasI set s && cntM f s) (wrgM f v) N) (T + 1)))), (5, .long (lN (pwN (fun s => hasI set s && cntM f s) N))), (0, .ref m), (1, .int (nI v)), (2, .int set), (3, .int (nI P)), (4, .int what)]) hx hb dX4_slip_278 hl (by decide) rfl (fun ls hl => ?_)
                                  refine lv_goto (tgt := 258) hx hb dX4_slip_280 (by decide) ?_
                                  obtain rfl : x_5 = lN b1 := by rw [ex_5]
                                  obtain rfl : x_6 = lN (a1 % b1) := by rw [ex_6]
                                  exact ih_258 b1 (a1 % b1) (hb1) (Nat.lt_trans (Nat.mod_lt _ hbp) hb1) (by rw [← hg, Nat.gcd_comm b1, ← Nat.gcd_rec, Nat.gcd_comm]) (Nat.lt_of_lt_of_le (Nat.mod_lt _ hbp) (by omega)) _ _ hP hD hS _ (lv_sub hl [1, 0, 3, 4, 5, 6, 7, 8, 9] rfl)
                            exact J_258 _ (sumN (csN P (fun s => hasI set s && cntM f s) (wrgM f v) N) (T + 1)) (pwN (fun s => hasI set s && cntM f s) N) (hA63) (hB63) (rfl) (Nat.lt_succ_self _) _ _ hP hD hS _ (lv_sub hl [1, 0, 2, 3, 4, 5, 6, 7, 8] rfl)
                          · skip
                            have c_229' := Int32.not_lt.mp c_229
                            have hk3 : j1 ≤ T := by have h9 := c_229'; rw [hT] at h9; exact (nI_leI (by omega) (by omega)).mp h9
                            refine lv_lload hx hb dX4_slip_232 (lv_at hl 0 rfl) ?_
                            refine lv_aload_n hx hb dX4_slip_234 rfl (lv_at hl 3 rfl) ?_
                            refine lz_get (G := G) (ci := 4) (v := .ref (q 19)) (C := RX4) (T := TX4) (N := 24) hx hb hu_wsX40 (fun _ h9 => h9) hown hK hP 0 rfl rfl 19 (by decide) hw4 rfl rfl dX4_slip_235 ?_
                            refine lv_iload hx hb dX4_slip_238 (lv_at hl 1 rfl) ?_
                            refine lz_lald (f := arrW wy (csN P (fun s => hasI set s && cntM f s) (wrgM f v) N)) hx hb hK hP 2 rfl j1 (by omega) (Nat.le_of_ble_eq_true rfl) dX4_slip_240 ?_
                            refine lv_ladd hx hb dX4_slip_241 ?_
                            refine lv_topl (fun x_7 ex_7 => ?_)
                            refine lv_lstore (lv' := [(7, .long x_7), (9, .int (nI j1)), (5, .long (lN (pwN (fun s => hasI set s && cntM f s) N))), (0, .ref m), (1, .int (nI v)), (2, .int set), (3, .int (nI P)), (4, .int what)]) hx hb dX4_slip_242 hl (by decide) rfl (fun ls hl => ?_)
                            refine lv_iinc (v := nI (j1 + 1)) (lv' := [(9, .int (nI (j1 + 1))), (7, .long x_7), (5, .long (lN (pwN (fun s => hasI set s && cntM f s) N))), (0, .ref m), (1, .int (nI v)), (2, .int set), (3, .int (nI P)), (4, .int what)]) hx hb dX4_slip_244 hl (k := 1) rfl (nI_1 _) (by decide) rfl (fun ls hl => ?_)
                            refine lv_goto (tgt := 221) hx hb dX4_slip_247 (by decide) ?_
                            obtain rfl : x_7 = lN (sumN (csN P (fun s => hasI set s && cntM f s) (wrgM f v) N) (j1 + 1)) := by rw [ex_7]; unfold arrW; rw [if_pos (by omega), lN_add]; rfl
                            exact ih_221 (j1 + 1) (by omega) (by omega) _ _ hP hD hS _ (lv_sub hl [1, 0, 2, 3, 4, 5, 6, 7] rfl)
                      rw [show (0 : Int64) = lN (sumN (csN P (fun s => hasI set s && cntM f s) (wrgM f v) N) 0) from rfl] at hl
                      exact J_221 _ 0 (by omega) (Nat.lt_succ_self _) _ _ hP hD hS _ (lv_sub hl [1, 0, 2, 3, 4, 5, 6, 7] rfl)
                    · skip
                      have c_95' := Int32.not_le.mp c_95
                      have hk2 : k < N := lz_lt hN c_95 (by omega) (by omega)
                      refine lv_iload_n hx hb dX4_slip_98 rfl (lv_at hl 4 rfl) ?_
                      refine lv_iload hx hb dX4_slip_99 (lv_at hl 1 rfl) ?_
                      refine ro_calli (va_runS (As := [.int set, .int (nI k)]) (rest := []) ⟨hx, hb, hml, hown, hts⟩ (c_X4_has l G set k ) (cwS 2 hts gX4_slip_X4_has rfl rfl rfl (by decide +kernel) ⟨Nat.le_of_ble_eq_true rfl, Nat.le_of_ble_eq_true rfl⟩) (ro_pre hK (fun k q h => by simp at h)) rfl rfl hl.1 rfl (lv_room (Nat.le_of_ble_eq_true rfl)) dX4_slip_101 ⟨Nat.zero_le _, Nat.zero_le _⟩) (fun r_8 hr_8 => ?_)
                      refine lv_if_eq (tgt := 209) hx hb dX4_slip_104 (by decide) (fun c_104 => ?_) (fun c_104 => ?_)
                      · skip
                        have c_104 := b2_z hr_8 c_104
                        have hc9 : (fun s => hasI set s && cntM f s) k = false := by show (hasI set k && cntM f k) = false; rw [c_104]; rfl
                        refine lv_iinc (v := nI (k + 1)) (lv' := [(7, .int (nI (k + 1))), (5, .long (lN (pwN (fun s => hasI set s && cntM f s) k))), (0, .ref m), (1, .int (nI v)), (2, .int set), (3, .int (nI P)), (4, .int what)]) hx hb dX4_slip_209 hl (k := 1) rfl (nI_1 _) (by decide) rfl (fun ls hl => ?_)
                        refine lv_goto (tgt := 87) hx hb dX4_slip_212 (by decide) ?_
                        rw [show (lN (pwN (fun s => hasI set s && cntM f s) k) : Int64) = lN (pwN (fun s => hasI set s && cntM f s) (k + 1)) from by rw [pw_f hc9]] at hl
                        have hE_9 : arrW wy (csN P (fun s => hasI set s && cntM f s) (wrgM f v) k) = arrW wy (csN P (fun s => hasI set s && cntM f s) (wrgM f v) (k + 1)) := by first | rw [← cs_f hc9] | (rw [hd0, midM_0]; exact congrArg _ (cs_t (wr := (wrgM f v)) hc9))
                        replace hP : va_P G.1 lzC (lzM m q (upd S 0 0) ++ (lzI G (q 5) 64 f ++ (lzL G (q 19) 9 (arrW wy (csN P (fun s => hasI set s && cntM f s) (wrgM f v) (k + 1)))))) H := by rw [← hE_9]; exact hP
                        replace hD : va_D A (lzM m q (upd S 0 0) ++ (lzI G (q 5) 64 f ++ (lzL G (q 19) 9 (arrW wy (csN P (fun s => hasI set s && cntM f s) (wrgM f v) (k + 1)))))) := by rw [← hE_9]; exact hD
                        exact ih_87 (k + 1) (by omega) (by omega) _ _ hP hD hS _ (lv_sub hl [1, 0, 2, 3, 4, 5, 6] rfl)
                      · skip
                        have c_104 := b2_n hr_8 c_104
                        refine lv_aload_n hx hb dX4_slip_107 rfl (lv_at hl 2 rfl) ?_
                        refine lz_get (G := G) (ci := 4) (v := .ref (q 5)) (C := RX4) (T := TX4) (N := 24) hx hb hu_wsX40 (fun _ h9 => h9) hown hK hP 0 rfl rfl 5 (by decide) hw5 rfl rfl dX4_slip_108 ?_
                        refine lv_iload hx hb dX4_slip_111 (lv_at hl 1 rfl) ?_
                        have hPc := hP.sub (ws' := lzI G (q 5) 64 f) [1] rfl
                        refine ro_calli (va_runS (As := [.ref (q 5), .int (nI k)]) (rest := []) ⟨hx, hb, hml, hown, hts⟩ (c_X4_counts l G (q 5) f k (by omega)) (cwS 2 hts gX4_slip_X4_counts rfl rfl rfl (by decide +kernel) ⟨Nat.le_of_ble_eq_true rfl, Nat.le_of_ble_eq_true rfl⟩) (ro_pre hK hPc) rfl rfl hl.1 rfl (lv_room (Nat.le_of_ble_eq_true rfl)) dX4_slip_113 ⟨Nat.zero_le _, Nat.zero_le _⟩) (fun r_10 hr_10 => ?_)
                        refine lv_if_eq (tgt := 209) hx hb dX4_slip_116 (by decide) (fun c_116 => ?_) (fun c_116 => ?_)
                        · skip
                          have c_116 := b2_z hr_10 c_116
                          have hc9 : (fun s => hasI set s && cntM f s) k = false := by show (hasI set k && cntM f k) = false; rw [c_104, c_116]; rfl
                          refine lv_iinc (v := nI (k + 1)) (lv' := [(7, .int (nI (k + 1))), (5, .long (lN (pwN (fun s => hasI set s && cntM f s) k))), (0, .ref m), (1, .int (nI v)), (2, .int set), (3, .int (nI P)), (4, .int what)]) hx hb dX4_slip_209 hl (k := 1) rfl (nI_1 _) (by decide) rfl (fun ls hl => ?_)
                          refine lv_goto (tgt := 87) hx hb dX4_slip_212 (by decide) ?_
                          rw [show (lN (pwN (fun s => hasI set s && cntM f s) k) : Int64) = lN (pwN (fun s => hasI set s && cntM f s) (k + 1)) from by rw [pw_f hc9]] at hl
                          have hE_11 : arrW wy (csN P (fun s => hasI set s && cntM f s) (wrgM f v) k) = arrW wy (csN P (fun s => hasI set s && cntM f s) (wrgM f v) (k + 1)) := by first | rw [← cs_f hc9] | (rw [hd0, midM_0]; exact congrArg _ (cs_t (wr := (wrgM f v)) hc9))
                          replace hP : va_P G.1 lzC (lzM m q (upd S 0 0) ++ (lzI G (q 5) 64 f ++ (lzL G (q 19) 9 (arrW wy (csN P (fun s => hasI set s && cntM f s) (wrgM f v) (k + 1)))))) H := by rw [← hE_11]; exact hP
                          replace hD : va_D A (lzM m q (upd S 0 0) ++ (lzI G (q 5) 64 f ++ (lzL G (q 19) 9 (arrW wy (csN P (fun s => hasI set s && cntM f s) (wrgM f v) (k + 1)))))) := by rw [← hE_11]; exact hD
                          exact ih_87 (k + 1) (by omega) (by omega) _ _ hP hD hS _ (lv_sub hl [1, 0, 2, 3, 4, 5, 6] rfl)
                        · skip
                          have c_116 := b2_n hr_10 c_116
                          have hc9 : (fun s => hasI set s && cntM f s) k = true := by show (hasI set k && cntM f k) = true; rw [c_104, c_116]; rfl
                          refine lv_aload_n hx hb dX4_slip_119 rfl (lv_at hl 2 rfl) ?_
                          refine lz_get (G := G) (ci := 4) (v := .ref (q 5)) (C := RX4) (T := TX4) (N := 24) hx hb hu_wsX40 (fun _ h9 => h9) hown hK hP 0 rfl rfl 5 (by decide) hw5 rfl rfl dX4_slip_120 ?_
                          refine lv_iload_n hx hb dX4_slip_123 rfl (lv_at hl 3 rfl) ?_
                          refine lv_iload hx hb dX4_slip_124 (lv_at hl 1 rfl) ?_
                          have hPc := hP.sub (ws' := lzI G (q 5) 64 f) [1] rfl
                          refine ro_calli (va_runS (As := [.ref (q 5), .int (nI v), .int (nI k)]) (rest := []) ⟨hx, hb, hml, hown, hts⟩ (c_X4_isWrong l G (q 5) f v k (by omega) (by omega)) (cwS 3 hts gX4_slip_X4_isWrong rfl rfl rfl (by decide +kernel) ⟨Nat.le_of_ble_eq_true rfl, Nat.le_of_ble_eq_true rfl⟩) (ro_pre hK hPc) rfl rfl hl.1 rfl (lv_room (Nat.le_of_ble_eq_true rfl)) dX4_slip_126 ⟨Nat.zero_le _, Nat.zero_le _⟩) (fun r_12 hr_12 => ?_)
                          refine lv_if_eq (tgt := 139) hx hb dX4_slip_129 (by decide) (fun c_129 => ?_) (fun c_129 => ?_)
                          · skip
                            have c_129 := b2_z hr_12 c_129
                            refine lv_iload_n hx hb dX4_slip_139 rfl (lv_at hl 5 rfl) ?_
                            refine lz_top (y := nI (odd P ((wrgM f v) k))) (by first | (rw [show (10 : Int32) = nI 10 from rfl, pk_sub hPt]; simp [odd, c_129]) | simp [odd, c_129]) ?_
                            refine lv_istore (lv' := [(8, .int (nI (odd P ((wrgM f v) k)))), (5, .long (lN (pwN (fun s => hasI set s && cntM f s) k))), (7, .int (nI k)), (0, .ref m), (1, .int (nI v)), (2, .int set), (3, .int (nI P)), (4, .int what)]) hx hb dX4_slip_140 hl (by decide) rfl (fun ls hl => ?_)
                            refine lv_lload hx hb dX4_slip_142 (lv_at hl 1 rfl) ?_
                            refine lv_ldc2 hx hb hown hw2 dX4_slip_144 ?_
                            refine lv_lmul hx hb dX4_slip_147 ?_
                            refine lz_topl (y := lN (pwN (fun s => hasI set s && cntM f s) (k + 1))) (pw_t hc9) ?_
                            refine lv_lstore (lv' := [(5, .long (lN (pwN (fun s => hasI set s && cntM f s) (k + 1)))), (8, .int (nI (odd P ((wrgM f v) k)))), (7, .int (nI k)), (0, .ref m), (1, .int (nI v)), (2, .int set), (3, .int (nI P)), (4, .int what)]) hx hb dX4_slip_148 hl (by decide) rfl (fun ls hl => ?_)
                            refine lv_bipush (v := 8) hx hb dX4_slip_150 (by decide) ?_
                            refine lv_istore (lv' := [(9, .int 8), (5, .long (lN (pwN (fun s => hasI set s && cntM f s) (k + 1)))), (8, .int (nI (odd P ((wrgM f v) k)))), (7, .int (nI k)), (0, .ref m), (1, .int (nI v)), (2, .int set), (3, .int (nI P)), (4, .int what)]) hx hb dX4_slip_152 hl (by decide) rfl (fun ls hl => ?_)
                            have J_154 : ∀ (n9 : Nat), ∀ (d : Nat), (d ≤ 9) → d < n9 → ∀ (H : Heap) (locs : List Loc), va_P G.1 lzC (lzM m q (upd S 0 0) ++ (lzI G (q 5) 64 f ++ (lzL G (q 19) 9 (midM wy (odd P ((wrgM f v) k)) (csN P (fun s => hasI set s && cntM f s) (wrgM f v) k) d)))) H → va_D A (lzM m q (upd S 0 0) ++ (lzI G (q 5) 64 f ++ (lzL G (q 19) 9 (midM wy (odd P ((wrgM f v) k)) (csN P (fun s => hasI set s && cntM f s) (wrgM f v) k) d)))) → va_S A ss.heap H locs → ∀ ls : Array Slot, lv_has ls 15 [(9, .int (nI d - 1)), (5, .long (lN (pwN (fun s => hasI set s && cntM f s) (k + 1)))), (8, .int (nI (odd P ((wrgM f v) k)))), (7, .int (nI k)), (0, .ref m), (1, .int (nI v)), (2, .int set), (3, .int (nI P)), (4, .int what)] → W pp l ee ({ frames := 4, cells := 0, slots := 0, locals := 90 }) ss mm ([.ref m, .int (nI v), .int set, .int (nI P), .int what] : List Value).toArray bl me cd H locs 0 0 (MQ bl (va_Ql (S := Unit) (fun (r : Int64) (_ : Unit) => r = if what = 0 then lN ((sumN (csN P (fun s => hasI set s && cntM f s) (wrgM f v) N) (T + 1)) / Nat.gcd (sumN (csN P (fun s => hasI set s && cntM f s) (wrgM f v) N) (T + 1)) (pwN (fun s => hasI set s && cntM f s) N)) else lN ((pwN (fun s => hasI set s && cntM f s) N) / Nat.gcd (sumN (csN P (fun s => hasI set s && cntM f s) (wrgM f v) N) (T + 1)) (pwN (fun s => hasI set s && cntM f s) N))) (rwB G (fun _ : Unit => (lzM m q (upd S 0 0) ++ (lzI G (q 5) 64 f ++ (lzL G (q 19) 9 (arrW wy (csN P (fun s => hasI set s && cntM f s) (wrgM f v) N))))))) A) ([.ref m, .int (nI v), .int set, .int (nI P), .int what] : List Value).toArray ss 0 0 A) (F0 mm 154 ls []) := by
                              intro n9
                              induction n9 with
                              | zero => intro d hd9 hn; exact absurd hn (Nat.not_lt_zero _)
                              | succ n9 ih_154 =>
                                intro d hd9 hn_154 H locs hP hD hS ls hl
                                refine lv_iload hx hb dX4_slip_154 (lv_at hl 0 rfl) ?_
                                refine lv_if_lt (tgt := 209) hx hb dX4_slip_156 (by decide) (fun c_156 => ?_) (fun c_156 => ?_)
                                · skip
                                  have c_156' := Int32.not_le.mpr c_156
                                  have hd0 : d = 0 := dn_neg hd9 c_156
                                  refine lv_iinc (v := nI (k + 1)) (lv' := [(7, .int (nI (k + 1))), (9, .int (nI d - 1)), (5, .long (lN (pwN (fun s => hasI set s && cntM f s) (k + 1)))), (8, .int (nI (odd P ((wrgM f v) k)))), (0, .ref m), (1, .int (nI v)), (2, .int set), (3, .int (nI P)), (4, .int what)]) hx hb dX4_slip_209 hl (k := 3) rfl (nI_1 _) (by decide) rfl (fun ls hl => ?_)
                                  refine lv_goto (tgt := 87) hx hb dX4_slip_212 (by decide) ?_
                                  have hE_13 : midM wy (odd P ((wrgM f v) k)) (csN P (fun s => hasI set s && cntM f s) (wrgM f v) k) d = arrW wy (csN P (fun s => hasI set s && cntM f s) (wrgM f v) (k + 1)) := by first | rw [← cs_f hc9] | (rw [hd0, midM_0]; exact congrArg _ (cs_t (wr := (wrgM f v)) hc9))
                                  replace hP : va_P G.1 lzC (lzM m q (upd S 0 0) ++ (lzI G (q 5) 64 f ++ (lzL G (q 19) 9 (arrW wy (csN P (fun s => hasI set s && cntM f s) (wrgM f v) (k + 1)))))) H := by rw [← hE_13]; exact hP
                                  replace hD : va_D A (lzM m q (upd S 0 0) ++ (lzI G (q 5) 64 f ++ (lzL G (q 19) 9 (arrW wy (csN P (fun s => hasI set s && cntM f s) (wrgM f v) (k + 1)))))) := by rw [← hE_13]; exact hD
                                  exact ih_87 (k + 1) (by omega) (by omega) _ _ hP hD hS _ (lv_sub hl [2, 0, 4, 5, 6, 7, 8] rfl)
                                · skip
                                  have c_156' := Int32.not_lt.mp c_156
                                  have hd1 : 1 ≤ d := dn_pos c_156
                                  rw [dn_one hd1] at hl
                                  refine lv_aload_n hx hb dX4_slip_159 rfl (lv_at hl 4 rfl) ?_
                                  refine lz_get (G := G) (ci := 4) (v := .ref (q 19)) (C := RX4) (T := TX4) (N := 24) hx hb hu_wsX40 (fun _ h9 => h9) hown hK hP 0 rfl rfl 19 (by decide) hw4 rfl rfl dX4_slip_160 ?_
                                  refine lv_iload hx hb dX4_slip_163 (lv_at hl 0 rfl) ?_
                                  refine lv_aload_n hx hb dX4_slip_165 rfl (lv_at hl 4 rfl) ?_
                                  refine lz_get (G := G) (ci := 4) (v := .ref (q 19)) (C := RX4) (T := TX4) (N := 24) hx hb hu_wsX40 (fun _ h9 => h9) hown hK hP 0 rfl rfl 19 (by decide) hw4 rfl rfl dX4_slip_166 ?_
                                  refine lv_iload hx hb dX4_slip_169 (lv_at hl 0 rfl) ?_
                                  refine lz_lald (f := midM wy (odd P ((wrgM f v) k)) (csN P (fun s => hasI set s && cntM f s) (wrgM f v) k) d) hx hb hK hP 2 rfl (d - 1) (by omega) (Nat.le_of_ble_eq_true rfl) dX4_slip_171 ?_
                                  refine lv_bipush (v := 10) hx hb dX4_slip_172 (by decide) ?_
                                  refine lv_iload hx hb dX4_slip_174 (lv_at hl 2 rfl) ?_
                                  refine lv_isub hx hb dX4_slip_176 ?_
                                  refine lv_i2l hx hb dX4_slip_177 rfl ?_
                                  refine lv_lmul hx hb dX4_slip_178 ?_
                                  refine lv_iload hx hb dX4_slip_179 (lv_at hl 0 rfl) ?_
                                  refine lv_if_le (tgt := 200) hx hb dX4_slip_181 (by decide) (fun c_181 => ?_) (fun c_181 => ?_)
                                  · skip
                                    have c_181' := Int32.not_lt.mpr c_181
                                    have ht0 : d - 1 = 0 := by have h9 := (nI_leI (b := 0) (by omega) (by decide)).mp c_181; omega
                                    refine lv_lconst (v := 0) hx hb dX4_slip_200 (by decide) ?_
                                    refine lv_ladd hx hb dX4_slip_201 ?_
                                    refine lz_last (f := midM wy (odd P ((wrgM f v) k)) (csN P (fun s => hasI set s && cntM f s) (wrgM f v) k) d) hx hb hK hP hD hS 2 rfl (d - 1) (by omega) (Nat.le_of_ble_eq_true rfl) dX4_slip_202 (lzM m q (upd S 0 0) ++ (lzI G (q 5) 64 f ++ (lzL G (q 19) 9 (vp_updL (midM wy (odd P ((wrgM f v) k)) (csN P (fun s => hasI set s && cntM f s) (wrgM f v) k) d) (d - 1) ((((midM wy (odd P ((wrgM f v) k)) (csN P (fun s => hasI set s && cntM f s) (wrgM f v) k) d) (d - 1)) * ((10 - (nI (odd P ((wrgM f v) k)))).toInt64)) + 0))))) rfl (fun H locs hP hD hS => ?_)
                                    obtain ⟨x_14, ex_14⟩ : ∃ y : Int32, y = (nI (d - 1)) + (-1) := ⟨_, rfl⟩
                                    refine lv_iinc (v := x_14) (lv' := [(9, .int x_14), (5, .long (lN (pwN (fun s => hasI set s && cntM f s) (k + 1)))), (8, .int (nI (odd P ((wrgM f v) k)))), (7, .int (nI k)), (0, .ref m), (1, .int (nI v)), (2, .int set), (3, .int (nI P)), (4, .int what)]) hx hb dX4_slip_203 hl (k := 0) rfl (by rw [ex_14]; rfl) (by decide) rfl (fun ls hl => ?_)
                                    refine lv_goto (tgt := 154) hx hb dX4_slip_206 (by decide) ?_
                                    obtain rfl : x_14 = nI (d - 1) - 1 := by rw [ex_14]; exact sub_neg1 _
                                    have hE_15 : vp_updL (midM wy (odd P ((wrgM f v) k)) (csN P (fun s => hasI set s && cntM f s) (wrgM f v) k) d) (d - 1) ((((midM wy (odd P ((wrgM f v) k)) (csN P (fun s => hasI set s && cntM f s) (wrgM f v) k) d) (d - 1)) * ((10 - (nI (odd P ((wrgM f v) k)))).toInt64)) + 0) = midM wy (odd P ((wrgM f v) k)) (csN P (fun s => hasI set s && cntM f s) (wrgM f v) k) (d - 1) := midM_s hd1 hd9 (by first | (rw [midM_at (by omega) (by omega), midM_at (by omega) (by omega)]; exact wy_at (odd_le hPt _) ht1) | (rw [ht0, midM_at (by decide) (by omega), Int64.add_zero]; exact wy_0 (odd_le hPt _)))
                                    replace hP : va_P G.1 lzC (lzM m q (upd S 0 0) ++ (lzI G (q 5) 64 f ++ (lzL G (q 19) 9 (midM wy (odd P ((wrgM f v) k)) (csN P (fun s => hasI set s && cntM f s) (wrgM f v) k) (d - 1))))) H := by rw [← hE_15]; exact hP
                                    replace hD : va_D A (lzM m q (upd S 0 0) ++ (lzI G (q 5) 64 f ++ (lzL G (q 19) 9 (midM wy (odd P ((wrgM f v) k)) (csN P (fun s => hasI set s && cntM f s) (wrgM f v) k) (d - 1))))) := by rw [← hE_15]; exact hD
                                    exact ih_154 (d - 1) (by omega) (by omega) _ _ hP hD hS _ (lv_sub hl [0, 1, 2, 3, 4, 5, 6, 7, 8] rfl)
                                  · skip
                                    have c_181' := Int32.not_le.mp c_181
                                    have ht1 : 1 ≤ d - 1 := (nI_ltI (a := 0) (by decide) (by omega)).mp c_181'
                                    refine lv_aload_n hx hb dX4_slip_184 rfl (lv_at hl 4 rfl) ?_
                                    refine lz_get (G := G) (ci := 4) (v := .ref (q 19)) (C := RX4) (T := TX4) (N := 24) hx hb hu_wsX40 (fun _ h9 => h9) hown hK hP 0 rfl rfl 19 (by decide) hw4 rfl rfl dX4_slip_185 ?_
                                    refine lv_iload hx hb dX4_slip_188 (lv_at hl 0 rfl) ?_
                                    refine lv_iconst (v := 1) hx hb dX4_slip_190 (by decide) ?_
                                    refine lv_isub hx hb dX4_slip_191 ?_
                                    refine lz_top (y := nI (d - 1 - 1)) (pk_sub (b := 1) ht1) ?_
                                    refine lz_lald (f := midM wy (odd P ((wrgM f v) k)) (csN P (fun s => hasI set s && cntM f s) (wrgM f v) k) d) hx hb hK hP 2 rfl (d - 1 - 1) (by omega) (Nat.le_of_ble_eq_true rfl) dX4_slip_192 ?_
                                    refine lv_iload hx hb dX4_slip_193 (lv_at hl 2 rfl) ?_
                                    refine lv_i2l hx hb dX4_slip_195 rfl ?_
                                    refine lv_lmul hx hb dX4_slip_196 ?_
                                    refine lv_goto (tgt := 201) hx hb dX4_slip_197 (by decide) ?_
                                    refine lv_ladd hx hb dX4_slip_201 ?_
                                    refine lz_last (f := midM wy (odd P ((wrgM f v) k)) (csN P (fun s => hasI set s && cntM f s) (wrgM f v) k) d) hx hb hK hP hD hS 2 rfl (d - 1) (by omega) (Nat.le_of_ble_eq_true rfl) dX4_slip_202 (lzM m q (upd S 0 0) ++ (lzI G (q 5) 64 f ++ (lzL G (q 19) 9 (vp_updL (midM wy (odd P ((wrgM f v) k)) (csN P (fun s => hasI set s && cntM f s) (wrgM f v) k) d) (d - 1) ((((midM wy (odd P ((wrgM f v) k)) (csN P (fun s => hasI set s && cntM f s) (wrgM f v) k) d) (d - 1)) * ((10 - (nI (odd P ((wrgM f v) k)))).toInt64)) + (((midM wy (odd P ((wrgM f v) k)) (csN P (fun s => hasI set s && cntM f s) (wrgM f v) k) d) (d - 1 - 1)) * ((nI (odd P ((wrgM f v) k))).toInt64))))))) rfl (fun H locs hP hD hS => ?_)
                                    obtain ⟨x_16, ex_16⟩ : ∃ y : Int32, y = (nI (d - 1)) + (-1) := ⟨_, rfl⟩
                                    refine lv_iinc (v := x_16) (lv' := [(9, .int x_16), (5, .long (lN (pwN (fun s => hasI set s && cntM f s) (k + 1)))), (8, .int (nI (odd P ((wrgM f v) k)))), (7, .int (nI k)), (0, .ref m), (1, .int (nI v)), (2, .int set), (3, .int (nI P)), (4, .int what)]) hx hb dX4_slip_203 hl (k := 0) rfl (by rw [ex_16]; rfl) (by decide) rfl (fun ls hl => ?_)
                                    refine lv_goto (tgt := 154) hx hb dX4_slip_206 (by decide) ?_
                                    obtain rfl : x_16 = nI (d - 1) - 1 := by rw [ex_16]; exact sub_neg1 _
                                    have hE_17 : vp_updL (midM wy (odd P ((wrgM f v) k)) (csN P (fun s => hasI set s && cntM f s) (wrgM f v) k) d) (d - 1) ((((midM wy (odd P ((wrgM f v) k)) (csN P (fun s => hasI set s && cntM f s) (wrgM f v) k) d) (d - 1)) * ((10 - (nI (odd P ((wrgM f v) k)))).toInt64)) + (((midM wy (odd P ((wrgM f v) k)) (csN P (fun s => hasI set s && cntM f s) (wrgM f v) k) d) (d - 1 - 1)) * ((nI (odd P ((wrgM f v) k))).toInt64))) = midM wy (odd P ((wrgM f v) k)) (csN P (fun s => hasI set s && cntM f s) (wrgM f v) k) (d - 1) := midM_s hd1 hd9 (by first | (rw [midM_at (by omega) (by omega), midM_at (by omega) (by omega)]; exact wy_at (odd_le hPt _) ht1) | (rw [ht0, midM_at (by decide) (by omega), Int64.add_zero]; exact wy_0 (odd_le hPt _)))
                                    replace hP : va_P G.1 lzC (lzM m q (upd S 0 0) ++ (lzI G (q 5) 64 f ++ (lzL G (q 19) 9 (midM wy (odd P ((wrgM f v) k)) (csN P (fun s => hasI set s && cntM f s) (wrgM f v) k) (d - 1))))) H := by rw [← hE_17]; exact hP
                                    replace hD : va_D A (lzM m q (upd S 0 0) ++ (lzI G (q 5) 64 f ++ (lzL G (q 19) 9 (midM wy (odd P ((wrgM f v) k)) (csN P (fun s => hasI set s && cntM f s) (wrgM f v) k) (d - 1))))) := by rw [← hE_17]; exact hD
                                    exact ih_154 (d - 1) (by omega) (by omega) _ _ hP hD hS _ (lv_sub hl [0, 1, 2, 3, 4, 5, 6, 7, 8] rfl)
                            rw [show (8 : Int32) = nI 9 - 1 from by decide] at hl
                            have hE_18 : arrW wy (csN P (fun s => hasI set s && cntM f s) (wrgM f v) k) = midM wy (odd P ((wrgM f v) k)) (csN P (fun s => hasI set s && cntM f s) (wrgM f v) k) 9 := midM_9 _ _ _
                            replace hP : va_P G.1 lzC (lzM m q (upd S 0 0) ++ (lzI G (q 5) 64 f ++ (lzL G (q 19) 9 (midM wy (odd P ((wrgM f v) k)) (csN P (fun s => hasI set s && cntM f s) (wrgM f v) k) 9)))) H := by rw [← hE_18]; exact hP
                            replace hD : va_D A (lzM m q (upd S 0 0) ++ (lzI G (q 5) 64 f ++ (lzL G (q 19) 9 (midM wy (odd P ((wrgM f v) k)) (csN P (fun s => hasI set s && cntM f s) (wrgM f v) k) 9)))) := by rw [← hE_18]; exact hD
                            exact J_154 _ 9 (by omega) (Nat.lt_succ_self _) _ _ hP hD hS _ (lv_sub hl [0, 1, 2, 3, 4, 5, 6, 7, 8] rfl)
                          · skip
                            have c_129 := b2_n hr_12 c_129
                            refine lv_bipush (v := 10) hx hb dX4_slip_132 (by decide) ?_
                            refine lv_iload_n hx hb dX4_slip_134 rfl (lv_at hl 5 rfl) ?_
                            refine lv_isub hx hb dX4_slip_135 ?_
                            refine lv_goto (tgt := 140) hx hb dX4_slip_136 (by decide) ?_
                            refine lz_top (y := nI (odd P ((wrgM f v) k))) (by first | (rw [show (10 : Int32) = nI 10 from rfl, pk_sub hPt]; simp [odd, c_129]) | simp [odd, c_129]) ?_
                            refine lv_istore (lv' := [(8, .int (nI (odd P ((wrgM f v) k)))), (5, .long (lN (pwN (fun s => hasI set s && cntM f s) k))), (7, .int (nI k)), (0, .ref m), (1, .int (nI v)), (2, .int set), (3, .int (nI P)), (4, .int what)]) hx hb dX4_slip_140 hl (by decide) rfl (fun ls hl => ?_)
                            refine lv_lload hx hb dX4_slip_142 (lv_at hl 1 rfl) ?_
                            refine lv_ldc2 hx hb hown hw2 dX4_slip_144 ?_
                            refine lv_lmul hx hb dX4_slip_147 ?_
                            refine lz_topl (y := lN (pwN (fun s => hasI set s && cntM f s) (k + 1))) (pw_t hc9) ?_
                            refine lv_lstore (lv' := [(5, .long (lN (pwN (fun s => hasI set s && cntM f s) (k + 1)))), (8, .int (nI (odd P ((wrgM f v) k)))), (7, .int (nI k)), (0, .ref m), (1, .int (nI v)), (2, .int set), (3, .int (nI P)), (4, .int what)]) hx hb dX4_slip_148 hl (by decide) rfl (fun ls hl => ?_)
                            refine lv_bipush (v := 8) hx hb dX4_slip_150 (by decide) ?_
                            refine lv_istore (lv' := [(9, .int 8), (5, .long (lN (pwN (fun s => hasI set s && cntM f s) (k + 1)))), (8, .int (nI (odd P ((wrgM f v) k)))), (7, .int (nI k)), (0, .ref m), (1, .int (nI v)), (2, .int set), (3, .int (nI P)), (4, .int what)]) hx hb dX4_slip_152 hl (by decide) rfl (fun ls hl => ?_)
                            have J_154 : ∀ (n9 : Nat), ∀ (d : Nat), (d ≤ 9) → d < n9 → ∀ (H : Heap) (locs : List Loc), va_P G.1 lzC (lzM m q (upd S 0 0) ++ (lzI G (q 5) 64 f ++ (lzL G (q 19) 9 (midM wy (odd P ((wrgM f v) k)) (csN P (fun s => hasI set s && cntM f s) (wrgM f v) k) d)))) H → va_D A (lzM m q (upd S 0 0) ++ (lzI G (q 5) 64 f ++ (lzL G (q 19) 9 (midM wy (odd P ((wrgM f v) k)) (csN P (fun s => hasI set s && cntM f s) (wrgM f v) k) d)))) → va_S A ss.heap H locs → ∀ ls : Array Slot, lv_has ls 15 [(9, .int (nI d - 1)), (5, .long (lN (pwN (fun s => hasI set s && cntM f s) (k + 1)))), (8, .int (nI (odd P ((wrgM f v) k)))), (7, .int (nI k)), (0, .ref m), (1, .int (nI v)), (2, .int set), (3, .int (nI P)), (4, .int what)] → W pp l ee ({ frames := 4, cells := 0, slots := 0, locals := 90 }) ss mm ([.ref m, .int (nI v), .int set, .int (nI P), .int what] : List Value).toArray bl me cd H locs 0 0 (MQ bl (va_Ql (S := Unit) (fun (r : Int64) (_ : Unit) => r = if what = 0 then lN ((sumN (csN P (fun s => hasI set s && cntM f s) (wrgM f v) N) (T + 1)) / Nat.gcd (sumN (csN P (fun s => hasI set s && cntM f s) (wrgM f v) N) (T + 1)) (pwN (fun s => hasI set s && cntM f s) N)) else lN ((pwN (fun s => hasI set s && cntM f s) N) / Nat.gcd (sumN (csN P (fun s => hasI set s && cntM f s) (wrgM f v) N) (T + 1)) (pwN (fun s => hasI set s && cntM f s) N))) (rwB G (fun _ : Unit => (lzM m q (upd S 0 0) ++ (lzI G (q 5) 64 f ++ (lzL G (q 19) 9 (arrW wy (csN P (fun s => hasI set s && cntM f s) (wrgM f v) N))))))) A) ([.ref m, .int (nI v), .int set, .int (nI P), .int what] : List Value).toArray ss 0 0 A) (F0 mm 154 ls []) := by
                              intro n9
                              induction n9 with
                              | zero => intro d hd9 hn; exact absurd hn (Nat.not_lt_zero _)
                              | succ n9 ih_154 =>
                                intro d hd9 hn_154 H locs hP hD hS ls hl
                                refine lv_iload hx hb dX4_slip_154 (lv_at hl 0 rfl) ?_
                                refine lv_if_lt (tgt := 209) hx hb dX4_slip_156 (by decide) (fun c_156 => ?_) (fun c_156 => ?_)
                                · skip
                                  have c_156' := Int32.not_le.mpr c_156
                                  have hd0 : d = 0 := dn_neg hd9 c_156
                                  refine lv_iinc (v := nI (k + 1)) (lv' := [(7, .int (nI (k + 1))), (9, .int (nI d - 1)), (5, .long (lN (pwN (fun s => hasI set s && cntM f s) (k + 1)))), (8, .int (nI (odd P ((wrgM f v) k)))), (0, .ref m), (1, .int (nI v)), (2, .int set), (3, .int (nI P)), (4, .int what)]) hx hb dX4_slip_209 hl (k := 3) rfl (nI_1 _) (by decide) rfl (fun ls hl => ?_)
                                  refine lv_goto (tgt := 87) hx hb dX4_slip_212 (by decide) ?_
                                  have hE_19 : midM wy (odd P ((wrgM f v) k)) (csN P (fun s => hasI set s && cntM f s) (wrgM f v) k) d = arrW wy (csN P (fun s => hasI set s && cntM f s) (wrgM f v) (k + 1)) := by first | rw [← cs_f hc9] | (rw [hd0, midM_0]; exact congrArg _ (cs_t (wr := (wrgM f v)) hc9))
                                  replace hP : va_P G.1 lzC (lzM m q (upd S 0 0) ++ (lzI G (q 5) 64 f ++ (lzL G (q 19) 9 (arrW wy (csN P (fun s => hasI set s && cntM f s) (wrgM f v) (k + 1)))))) H := by rw [← hE_19]; exact hP
                                  replace hD : va_D A (lzM m q (upd S 0 0) ++ (lzI G (q 5) 64 f ++ (lzL G (q 19) 9 (arrW wy (csN P (fun s => hasI set s && cntM f s) (wrgM f v) (k + 1)))))) := by rw [← hE_19]; exact hD
                                  exact ih_87 (k + 1) (by omega) (by omega) _ _ hP hD hS _ (lv_sub hl [2, 0, 4, 5, 6, 7, 8] rfl)
                                · skip
                                  have c_156' := Int32.not_lt.mp c_156
                                  have hd1 : 1 ≤ d := dn_pos c_156
                                  rw [dn_one hd1] at hl
                                  refine lv_aload_n hx hb dX4_slip_159 rfl (lv_at hl 4 rfl) ?_
                                  refine lz_get (G := G) (ci := 4) (v := .ref (q 19)) (C := RX4) (T := TX4) (N := 24) hx hb hu_wsX40 (fun _ h9 => h9) hown hK hP 0 rfl rfl 19 (by decide) hw4 rfl rfl dX4_slip_160 ?_
                                  refine lv_iload hx hb dX4_slip_163 (lv_at hl 0 rfl) ?_
                                  refine lv_aload_n hx hb dX4_slip_165 rfl (lv_at hl 4 rfl) ?_
                                  refine lz_get (G := G) (ci := 4) (v := .ref (q 19)) (C := RX4) (T := TX4) (N := 24) hx hb hu_wsX40 (fun _ h9 => h9) hown hK hP 0 rfl rfl 19 (by decide) hw4 rfl rfl dX4_slip_166 ?_
                                  refine lv_iload hx hb dX4_slip_169 (lv_at hl 0 rfl) ?_
                                  refine lz_lald (f := midM wy (odd P ((wrgM f v) k)) (csN P (fun s => hasI set s && cntM f s) (wrgM f v) k) d) hx hb hK hP 2 rfl (d - 1) (by omega) (Nat.le_of_ble_eq_true rfl) dX4_slip_171 ?_
                                  refine lv_bipush (v := 10) hx hb dX4_slip_172 (by decide) ?_
                                  refine lv_iload hx hb dX4_slip_174 (lv_at hl 2 rfl) ?_
                                  refine lv_isub hx hb dX4_slip_176 ?_
                                  refine lv_i2l hx hb dX4_slip_177 rfl ?_
                                  refine lv_lmul hx hb dX4_slip_178 ?_
                                  refine lv_iload hx hb dX4_slip_179 (lv_at hl 0 rfl) ?_
                                  refine lv_if_le (tgt := 200) hx hb dX4_slip_181 (by decide) (fun c_181 => ?_) (fun c_181 => ?_)
                                  · skip
                                    have c_181' := Int32.not_lt.mpr c_181
                                    have ht0 : d - 1 = 0 := by have h9 := (nI_leI (b := 0) (by omega) (by decide)).mp c_181; omega
                                    refine lv_lconst (v := 0) hx hb dX4_slip_200 (by decide) ?_
                                    refine lv_ladd hx hb dX4_slip_201 ?_
                                    refine lz_last (f := midM wy (odd P ((wrgM f v) k)) (csN P (fun s => hasI set s && cntM f s) (wrgM f v) k) d) hx hb hK hP hD hS 2 rfl (d - 1) (by omega) (Nat.le_of_ble_eq_true rfl) dX4_slip_202 (lzM m q (upd S 0 0) ++ (lzI G (q 5) 64 f ++ (lzL G (q 19) 9 (vp_updL (midM wy (odd P ((wrgM f v) k)) (csN P (fun s => hasI set s && cntM f s) (wrgM f v) k) d) (d - 1) ((((midM wy (odd P ((wrgM f v) k)) (csN P (fun s => hasI set s && cntM f s) (wrgM f v) k) d) (d - 1)) * ((10 - (nI (odd P ((wrgM f v) k)))).toInt64)) + 0))))) rfl (fun H locs hP hD hS => ?_)
                                    obtain ⟨x_20, ex_20⟩ : ∃ y : Int32, y = (nI (d - 1)) + (-1) := ⟨_, rfl⟩
                                    refine lv_iinc (v := x_20) (lv' := [(9, .int x_20), (5, .long (lN (pwN (fun s => hasI set s && cntM f s) (k + 1)))), (8, .int (nI (odd P ((wrgM f v) k)))), (7, .int (nI k)), (0, .ref m), (1, .int (nI v)), (2, .int set), (3, .int (nI P)), (4, .int what)]) hx hb dX4_slip_203 hl (k := 0) rfl (by rw [ex_20]; rfl) (by decide) rfl (fun ls hl => ?_)
                                    refine lv_goto (tgt := 154) hx hb dX4_slip_206 (by decide) ?_
                                    obtain rfl : x_20 = nI (d - 1) - 1 := by rw [ex_20]; exact sub_neg1 _
                                    have hE_21 : vp_updL (midM wy (odd P ((wrgM f v) k)) (csN P (fun s => hasI set s && cntM f s) (wrgM f v) k) d) (d - 1) ((((midM wy (odd P ((wrgM f v) k)) (csN P (fun s => hasI set s && cntM f s) (wrgM f v) k) d) (d - 1)) * ((10 - (nI (odd P ((wrgM f v) k)))).toInt64)) + 0) = midM wy (odd P ((wrgM f v) k)) (csN P (fun s => hasI set s && cntM f s) (wrgM f v) k) (d - 1) := midM_s hd1 hd9 (by first | (rw [midM_at (by omega) (by omega), midM_at (by omega) (by omega)]; exact wy_at (odd_le hPt _) ht1) | (rw [ht0, midM_at (by decide) (by omega), Int64.add_zero]; exact wy_0 (odd_le hPt _)))
                                    replace hP : va_P G.1 lzC (lzM m q (upd S 0 0) ++ (lzI G (q 5) 64 f ++ (lzL G (q 19) 9 (midM wy (odd P ((wrgM f v) k)) (csN P (fun s => hasI set s && cntM f s) (wrgM f v) k) (d - 1))))) H := by rw [← hE_21]; exact hP
                                    replace hD : va_D A (lzM m q (upd S 0 0) ++ (lzI G (q 5) 64 f ++ (lzL G (q 19) 9 (midM wy (odd P ((wrgM f v) k)) (csN P (fun s => hasI set s && cntM f s) (wrgM f v) k) (d - 1))))) := by rw [← hE_21]; exact hD
                                    exact ih_154 (d - 1) (by omega) (by omega) _ _ hP hD hS _ (lv_sub hl [0, 1, 2, 3, 4, 5, 6, 7, 8] rfl)
                                  · skip
                                    have c_181' := Int32.not_le.mp c_181
                                    have ht1 : 1 ≤ d - 1 := (nI_ltI (a := 0) (by decide) (by omega)).mp c_181'
                                    refine lv_aload_n hx hb dX4_slip_184 rfl (lv_at hl 4 rfl) ?_
                                    refine lz_get (G := G) (ci := 4) (v := .ref (q 19)) (C := RX4) (T := TX4) (N := 24) hx hb hu_wsX40 (fun _ h9 => h9) hown hK hP 0 rfl rfl 19 (by decide) hw4 rfl rfl dX4_slip_185 ?_
                                    refine lv_iload hx hb dX4_slip_188 (lv_at hl 0 rfl) ?_
                                    refine lv_iconst (v := 1) hx hb dX4_slip_190 (by decide) ?_
                                    refine lv_isub hx hb dX4_slip_191 ?_
                                    refine lz_top (y := nI (d - 1 - 1)) (pk_sub (b := 1) ht1) ?_
                                    refine lz_lald (f := midM wy (odd P ((wrgM f v) k)) (csN P (fun s => hasI set s && cntM f s) (wrgM f v) k) d) hx hb hK hP 2 rfl (d - 1 - 1) (by omega) (Nat.le_of_ble_eq_true rfl) dX4_slip_192 ?_
                                    refine lv_iload hx hb dX4_slip_193 (lv_at hl 2 rfl) ?_
                                    refine lv_i2l hx hb dX4_slip_195 rfl ?_
                                    refine lv_lmul hx hb dX4_slip_196 ?_
                                    refine lv_goto (tgt := 201) hx hb dX4_slip_197 (by decide) ?_
                                    refine lv_ladd hx hb dX4_slip_201 ?_
                                    refine lz_last (f := midM wy (odd P ((wrgM f v) k)) (csN P (fun s => hasI set s && cntM f s) (wrgM f v) k) d) hx hb hK hP hD hS 2 rfl (d - 1) (by omega) (Nat.le_of_ble_eq_true rfl) dX4_slip_202 (lzM m q (upd S 0 0) ++ (lzI G (q 5) 64 f ++ (lzL G (q 19) 9 (vp_updL (midM wy (odd P ((wrgM f v) k)) (csN P (fun s => hasI set s && cntM f s) (wrgM f v) k) d) (d - 1) ((((midM wy (odd P ((wrgM f v) k)) (csN P (fun s => hasI set s && cntM f s) (wrgM f v) k) d) (d - 1)) * ((10 - (nI (odd P ((wrgM f v) k)))).toInt64)) + (((midM wy (odd P ((wrgM f v) k)) (csN P (fun s => hasI set s && cntM f s) (wrgM f v) k) d) (d - 1 - 1)) * ((nI (odd P ((wrgM f v) k))).toInt64))))))) rfl (fun H locs hP hD hS => ?_)
                                    obtain ⟨x_22, ex_22⟩ : ∃ y : Int32, y = (nI (d - 1)) + (-1) := ⟨_, rfl⟩
                                    refine lv_iinc (v := x_22) (lv' := [(9, .int x_22), (5, .long (lN (pwN (fun s => hasI set s && cntM f s) (k + 1)))), (8, .int (nI (odd P ((wrgM f v) k)))), (7, .int (nI k)), (0, .ref m), (1, .int (nI v)), (2, .int set), (3, .int (nI P)), (4, .int what)]) hx hb dX4_slip_203 hl (k := 0) rfl (by rw [ex_22]; rfl) (by decide) rfl (fun ls hl => ?_)
                                    refine lv_goto (tgt := 154) hx hb dX4_slip_206 (by decide) ?_
                                    obtain rfl : x_22 = nI (d - 1) - 1 := by rw [ex_22]; exact sub_neg1 _
                                    have hE_23 : vp_updL (midM wy (odd P ((wrgM f v) k)) (csN P (fun s => hasI set s && cntM f s) (wrgM f v) k) d) (d - 1) ((((midM wy (odd P ((wrgM f v) k)) (csN P (fun s => hasI set s && cntM f s) (wrgM f v) k) d) (d - 1)) * ((10 - (nI (odd P ((wrgM f v) k)))).toInt64)) + (((midM wy (odd P ((wrgM f v) k)) (csN P (fun s => hasI set s && cntM f s) (wrgM f v) k) d) (d - 1 - 1)) * ((nI (odd P ((wrgM f v) k))).toInt64))) = midM wy (odd P ((wrgM f v) k)) (csN P (fun s => hasI set s && cntM f s) (wrgM f v) k) (d - 1) := midM_s hd1 hd9 (by first | (rw [midM_at (by omega) (by omega), midM_at (by omega) (by omega)]; exact wy_at (odd_le hPt _) ht1) | (rw [ht0, midM_at (by decide) (by omega), Int64.add_zero]; exact wy_0 (odd_le hPt _)))
                                    replace hP : va_P G.1 lzC (lzM m q (upd S 0 0) ++ (lzI G (q 5) 64 f ++ (lzL G (q 19) 9 (midM wy (odd P ((wrgM f v) k)) (csN P (fun s => hasI set s && cntM f s) (wrgM f v) k) (d - 1))))) H := by rw [← hE_23]; exact hP
                                    replace hD : va_D A (lzM m q (upd S 0 0) ++ (lzI G (q 5) 64 f ++ (lzL G (q 19) 9 (midM wy (odd P ((wrgM f v) k)) (csN P (fun s => hasI set s && cntM f s) (wrgM f v) k) (d - 1))))) := by rw [← hE_23]; exact hD
                                    exact ih_154 (d - 1) (by omega) (by omega) _ _ hP hD hS _ (lv_sub hl [0, 1, 2, 3, 4, 5, 6, 7, 8] rfl)
                            rw [show (8 : Int32) = nI 9 - 1 from by decide] at hl
                            have hE_24 : arrW wy (csN P (fun s => hasI set s && cntM f s) (wrgM f v) k) = midM wy (odd P ((wrgM f v) k)) (csN P (fun s => hasI set s && cntM f s) (wrgM f v) k) 9 := midM_9 _ _ _
                            replace hP : va_P G.1 lzC (lzM m q (upd S 0 0) ++ (lzI G (q 5) 64 f ++ (lzL G (q 19) 9 (midM wy (odd P ((wrgM f v) k)) (csN P (fun s => hasI set s && cntM f s) (wrgM f v) k) 9)))) H := by rw [← hE_24]; exact hP
                            replace hD : va_D A (lzM m q (upd S 0 0) ++ (lzI G (q 5) 64 f ++ (lzL G (q 19) 9 (midM wy (odd P ((wrgM f v) k)) (csN P (fun s => hasI set s && cntM f s) (wrgM f v) k) 9)))) := by rw [← hE_24]; exact hD
                            exact J_154 _ 9 (by omega) (Nat.lt_succ_self _) _ _ hP hD hS _ (lv_sub hl [0, 1, 2, 3, 4, 5, 6, 7, 8] rfl)
                rw [show (1 : Int64) = lN (pwN (fun s => hasI set s && cntM f s) 0) from rfl] at hl
                have hE_25 : ivW wy k = arrW wy (csN P (fun s => hasI set s && cntM f s) (wrgM f v) 0) := by rw [hk4]; exact ivW_9 _ _ _ _
                replace hP : va_P G.1 lzC (lzM m q (upd S 0 0) ++ (lzI G (q 5) 64 f ++ (lzL G (q 19) 9 (arrW wy (csN P (fun s => hasI set s && cntM f s) (wrgM f v) 0))))) H := by rw [← hE_25]; exact hP
                replace hD : va_D A (lzM m q (upd S 0 0) ++ (lzI G (q 5) 64 f ++ (lzL G (q 19) 9 (arrW wy (csN P (fun s => hasI set s && cntM f s) (wrgM f v) 0))))) := by rw [← hE_25]; exact hD
                exact J_87 _ 0 (by omega) (Nat.lt_succ_self _) _ _ hP hD hS _ (lv_sub hl [1, 0, 2, 3, 4, 5, 6] rfl)
              · skip
                have c_55' := Int32.not_le.mp c_55
                have hk2 : k < 9 := lz_lt (N := 9) rfl c_55 (by omega) (by omega)
                refine lv_aload_n hx hb dX4_slip_58 rfl (lv_at hl 1 rfl) ?_
                refine lz_get (G := G) (ci := 4) (v := .ref (q 19)) (C := RX4) (T := TX4) (N := 24) hx hb hu_wsX40 (fun _ h9 => h9) hown hK hP 0 rfl rfl 19 (by decide) hw4 rfl rfl dX4_slip_59 ?_
                refine lv_iload hx hb dX4_slip_62 (lv_at hl 0 rfl) ?_
                refine lv_iload hx hb dX4_slip_64 (lv_at hl 0 rfl) ?_
                refine lv_if_ne (tgt := 73) hx hb dX4_slip_66 (by decide) (fun c_66 => ?_) (fun c_66 => ?_)
                · skip
                  refine lv_lconst (v := 0) hx hb dX4_slip_73 (by decide) ?_
                  refine lz_topl (y := ivX k) (by first | exact (if_pos ((nI_eq (b := 0) (by omega) (by omega)).mp c_66)).symm | exact (if_neg (fun h9 => c_66 (by rw [h9]; rfl))).symm) ?_
                  refine lz_last (f := ivW wy k) hx hb hK hP hD hS 2 rfl k (by omega) (Nat.le_of_ble_eq_true rfl) dX4_slip_74 (lzM m q (upd S 0 0) ++ (lzI G (q 5) 64 f ++ (lzL G (q 19) 9 (vp_updL (ivW wy k) k (ivX k))))) rfl (fun H locs hP hD hS => ?_)
                  refine lv_iinc (v := nI (k + 1)) (lv' := [(5, .int (nI (k + 1))), (0, .ref m), (1, .int (nI v)), (2, .int set), (3, .int (nI P)), (4, .int what)]) hx hb dX4_slip_75 hl (k := 0) rfl (nI_1 _) (by decide) rfl (fun ls hl => ?_)
                  refine lv_goto (tgt := 51) hx hb dX4_slip_78 (by decide) ?_
                  have hE_26 : vp_updL (ivW wy k) k (ivX k) = ivW wy (k + 1) := ivW_s _ _
                  replace hP : va_P G.1 lzC (lzM m q (upd S 0 0) ++ (lzI G (q 5) 64 f ++ (lzL G (q 19) 9 (ivW wy (k + 1))))) H := by rw [← hE_26]; exact hP
                  replace hD : va_D A (lzM m q (upd S 0 0) ++ (lzI G (q 5) 64 f ++ (lzL G (q 19) 9 (ivW wy (k + 1))))) := by rw [← hE_26]; exact hD
                  exact ih_51 (k + 1) (by omega) (by omega) _ _ hP hD hS _ (lv_sub hl [0, 1, 2, 3, 4, 5] rfl)
                · skip
                  refine lv_lconst (v := 1) hx hb dX4_slip_69 (by decide) ?_
                  refine lv_goto (tgt := 74) hx hb dX4_slip_70 (by decide) ?_
                  refine lz_topl (y := ivX k) (by first | exact (if_pos ((nI_eq (b := 0) (by omega) (by omega)).mp c_66)).symm | exact (if_neg (fun h9 => c_66 (by rw [h9]; rfl))).symm) ?_
                  refine lz_last (f := ivW wy k) hx hb hK hP hD hS 2 rfl k (by omega) (Nat.le_of_ble_eq_true rfl) dX4_slip_74 (lzM m q (upd S 0 0) ++ (lzI G (q 5) 64 f ++ (lzL G (q 19) 9 (vp_updL (ivW wy k) k (ivX k))))) rfl (fun H locs hP hD hS => ?_)
                  refine lv_iinc (v := nI (k + 1)) (lv' := [(5, .int (nI (k + 1))), (0, .ref m), (1, .int (nI v)), (2, .int set), (3, .int (nI P)), (4, .int what)]) hx hb dX4_slip_75 hl (k := 0) rfl (nI_1 _) (by decide) rfl (fun ls hl => ?_)
                  refine lv_goto (tgt := 51) hx hb dX4_slip_78 (by decide) ?_
                  have hE_27 : vp_updL (ivW wy k) k (ivX k) = ivW wy (k + 1) := ivW_s _ _
                  replace hP : va_P G.1 lzC (lzM m q (upd S 0 0) ++ (lzI G (q 5) 64 f ++ (lzL G (q 19) 9 (ivW wy (k + 1))))) H := by rw [← hE_27]; exact hP
                  replace hD : va_D A (lzM m q (upd S 0 0) ++ (lzI G (q 5) 64 f ++ (lzL G (q 19) 9 (ivW wy (k + 1))))) := by rw [← hE_27]; exact hD
                  exact ih_51 (k + 1) (by omega) (by omega) _ _ hP hD hS _ (lv_sub hl [0, 1, 2, 3, 4, 5] rfl)
          have hE_28 : wy = ivW wy 0 := (ivW_0 _).symm
          replace hP : va_P G.1 lzC (lzM m q (upd S 0 0) ++ (lzI G (q 5) 64 f ++ (lzL G (q 19) 9 (ivW wy 0)))) H := by rw [← hE_28]; exact hP
          replace hD : va_D A (lzM m q (upd S 0 0) ++ (lzI G (q 5) 64 f ++ (lzL G (q 19) 9 (ivW wy 0)))) := by rw [← hE_28]; exact hD
          exact J_51 _ 0 (by omega) (Nat.lt_succ_self _) _ _ hP hD hS _ (lv_sub hl [0, 1, 2, 3, 4, 5] rfl)
        · skip
          have c_41 := b2_z hr_4 c_41
          exact Bool.noConfusion (hwL.symm.trans c_41)
