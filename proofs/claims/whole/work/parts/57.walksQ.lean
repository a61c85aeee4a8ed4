set_option maxHeartbeats 4000000 in
set_option maxRecDepth 100000 in
theorem c_X4_nextToken_fig (l : Launch) (G : lzG) (m : Nat) (q : Nat → Nat) (S : Nat → Int32) (tb : Nat → Int32) (L C : Nat) (hL : S 11 = nI L) (hC : S 12 = nI C) (hL1 : L ≤ 120) (hlt : C < L) (hdig : digB (tb C) = true) : Met l yX4_nextToken wsX4_nextToken ({ frames := 1, cells := 0, slots := 0, locals := 27 }) (va_Pc [.ref m] (rwP G (lzM m q S ++ lzI G (q 10) 120 tb))) (va_Qv (S := Unit) (fun _ : Unit => True) (rwB G (fun _ : Unit => (lzM m q (upd (upd (upd (upd S 13 (S 12)) 15 (numV tb L C)) 14 (if 2 < figN tb L C then 0 else 3)) 12 (nI (C + figN tb L C))) ++ lzI G (q 10) 120 tb))) (lzA (lzM m q S ++ lzI G (q 10) 120 tb))) 0 0 (lzA (lzM m q S ++ lzI G (q 10) 120 tb)) := by
  have hdL : inL (tb C).toInt64 48 57 = true := (inL_of (tb C) 48 57).trans hdig
  have hdN : inL (tb C).toInt64 97 122 = false := (inL_of (tb C) 97 122).trans (dig_no hdig)
  refine rw_start (S := Unit) (cc := cX4_nextToken) (maxL := 1) (ret := none) (by decide) rfl (Nat.le_of_ble_eq_true rfl) ?_
  intro pp ee ss mm bl me cd A hx hb hr hlk hml hts hown hP hK hD hAe hS ls hl
  have hA0 : ∀ zz : Nat, lzA (lzM m q S ++ lzI G (q 10) 120 tb) zz → A zz := fun zz h9 => by rw [hAe]; exact h9
  rw [← hAe]
  clear hAe
  have hown : ss.vm.findClass RX4 = some mm.cls := hown
  have hw1 := hts (.fieldLink RX4 88 "LampSquaresModel" "cursor" "I") (List.mem_of_getElem? (i := 1) rfl)
  have hw2 := hts (.fieldLink RX4 82 "LampSquaresModel" "start" "I") (List.mem_of_getElem? (i := 2) rfl)
  have hw3 := hts (.fieldLink RX4 75 "LampSquaresModel" "taped" "I") (List.mem_of_getElem? (i := 3) rfl)
  have hw4 := hts (.fieldLink RX4 31 "LampSquaresModel" "tape" "[I") (List.mem_of_getElem? (i := 4) rfl)
  have hw6 := hts (.fieldLink RX4 92 "LampSquaresModel" "value" "I") (List.mem_of_getElem? (i := 6) rfl)
  have hw7 := hts (.constantLong RX4 95 (97)) (List.mem_of_getElem? (i := 7) rfl)
  have hw8 := hts (.constantLong RX4 97 (122)) (List.mem_of_getElem? (i := 8) rfl)
  have hw9 := hts (.constantLong RX4 99 (48)) (List.mem_of_getElem? (i := 9) rfl)
  have hw10 := hts (.constantLong RX4 101 (57)) (List.mem_of_getElem? (i := 10) rfl)
  have hw11 := hts (.fieldLink RX4 103 "LampSquaresModel" "token" "I") (List.mem_of_getElem? (i := 11) rfl)
  have hu_wsX40 : ∀ w ∈ wsX40, w.before ([.ref m] : List Value).toArray ss = true := fun w h9 => hts w (List.mem_cons_of_mem _ (List.mem_append_right _ h9))
  have hl : lv_has ls 1 [(0, .ref m)] := hl
  refine lv_aload_n hx hb dX4_nextToken_0 rfl (lv_at hl 0 rfl) ?_
  refine lv_aload_n hx hb dX4_nextToken_1 rfl (lv_at hl 0 rfl) ?_
  refine lz_get (G := G) (ci := 4) (v := .int (S 12)) (C := RX4) (T := TX4) (N := 24) hx hb hu_wsX40 (fun _ h9 => h9) hown hK hP 0 rfl rfl 12 (by decide) hw1 rfl rfl dX4_nextToken_2 ?_
  refine lz_put (G := G) (ci := 4) (C := RX4) (T := TX4) (N := 24) hx hb hu_wsX40 (fun _ h9 => h9) tyX4 tyX4_ok nmX4 hown hK hP hD hS 0 rfl rfl 13 (by decide) hw2 rfl rfl (by decide +kernel) (Nat.le_of_ble_eq_true rfl) dX4_nextToken_5 (lzM m q (upd S 13 (S 12)) ++ lzI G (q 10) 120 tb) rfl (fun H locs hP hD hS => ?_)
  refine lv_aload_n hx hb dX4_nextToken_8 rfl (lv_at hl 0 rfl) ?_
  refine lv_aload_n hx hb dX4_nextToken_9 rfl (lv_at hl 0 rfl) ?_
  refine lz_get (G := G) (ci := 4) (v := .int (S 12)) (C := RX4) (T := TX4) (N := 24) hx hb hu_wsX40 (fun _ h9 => h9) hown hK hP 0 rfl rfl 12 (by decide) hw1 rfl rfl dX4_nextToken_10 ?_
  refine lv_aload_n hx hb dX4_nextToken_13 rfl (lv_at hl 0 rfl) ?_
  refine lz_get (G := G) (ci := 4) (v := .int (S 11)) (C := RX4) (T := TX4) (N := 24) hx hb hu_wsX40 (fun _ h9 => h9) hown hK hP 0 rfl rfl 11 (by decide) hw3 rfl rfl dX4_nextToken_14 ?_
  refine lv_icmp_ge (tgt := 32) hx hb dX4_nextToken_17 (by decide) (fun c_17 => ?_) (fun c_17 => ?_)
  · skip
    have c_17' := Int32.not_lt.mpr c_17
    exact absurd c_17 (by rw [hC, hL]; exact nI_ge hlt (by omega))
  · skip
    have c_17' := Int32.not_le.mp c_17
    refine lv_aload_n hx hb dX4_nextToken_20 rfl (lv_at hl 0 rfl) ?_
    refine lz_get (G := G) (ci := 4) (v := .ref (q 10)) (C := RX4) (T := TX4) (N := 24) hx hb hu_wsX40 (fun _ h9 => h9) hown hK hP 0 rfl rfl 10 (by decide) hw4 rfl rfl dX4_nextToken_21 ?_
    refine lv_aload_n hx hb dX4_nextToken_24 rfl (lv_at hl 0 rfl) ?_
    refine lz_get (G := G) (ci := 4) (v := .int (S 12)) (C := RX4) (T := TX4) (N := 24) hx hb hu_wsX40 (fun _ h9 => h9) hown hK hP 0 rfl rfl 12 (by decide) hw1 rfl rfl dX4_nextToken_25 ?_
    refine lz_top (y := nI C) (hC) ?_
    refine lz_iald (f := tb) hx hb hK hP 1 rfl C (by omega) (Nat.le_of_ble_eq_true rfl) dX4_nextToken_28 ?_
    refine lv_goto (tgt := 34) hx hb dX4_nextToken_29 (by decide) ?_
    refine lz_put (G := G) (ci := 4) (C := RX4) (T := TX4) (N := 24) hx hb hu_wsX40 (fun _ h9 => h9) tyX4 tyX4_ok nmX4 hown hK hP hD hS 0 rfl rfl 15 (by decide) hw6 rfl rfl (by decide +kernel) (Nat.le_of_ble_eq_true rfl) dX4_nextToken_34 (lzM m q (upd (upd S 13 (S 12)) 15 (tb C)) ++ lzI G (q 10) 120 tb) rfl (fun H locs hP hD hS => ?_)
    refine lv_aload_n hx hb dX4_nextToken_37 rfl (lv_at hl 0 rfl) ?_
    refine lv_aload_n hx hb dX4_nextToken_38 rfl (lv_at hl 0 rfl) ?_
    refine lz_get (G := G) (ci := 4) (v := .int (S 12)) (C := RX4) (T := TX4) (N := 24) hx hb hu_wsX40 (fun _ h9 => h9) hown hK hP 0 rfl rfl 12 (by decide) hw1 rfl rfl dX4_nextToken_39 ?_
    refine lv_aload_n hx hb dX4_nextToken_42 rfl (lv_at hl 0 rfl) ?_
    refine lz_get (G := G) (ci := 4) (v := .int (S 11)) (C := RX4) (T := TX4) (N := 24) hx hb hu_wsX40 (fun _ h9 => h9) hown hK hP 0 rfl rfl 11 (by decide) hw3 rfl rfl dX4_nextToken_43 ?_
    refine lv_icmp_ne (tgt := 53) hx hb dX4_nextToken_46 (by decide) (fun c_46 => ?_) (fun c_46 => ?_)
    · skip
      refine lv_aload_n hx hb dX4_nextToken_53 rfl (lv_at hl 0 rfl) ?_
      refine lz_get (G := G) (ci := 4) (v := .int (tb C)) (C := RX4) (T := TX4) (N := 24) hx hb hu_wsX40 (fun _ h9 => h9) hown hK hP 0 rfl rfl 15 (by decide) hw6 rfl rfl dX4_nextToken_54 ?_
      refine lv_i2l hx hb dX4_nextToken_57 rfl ?_
      refine lv_ldc2 hx hb hown hw7 dX4_nextToken_58 ?_
      refine lv_ldc2 hx hb hown hw8 dX4_nextToken_61 ?_
      refine ro_calli (va_runS (As := [.long ((tb C).toInt64), .long 97, .long 122]) (rest := [.ref m]) ⟨hx, hb, hml, hown, hts⟩ (c_X4_in l G ((tb C).toInt64) 97 122 ) (cwS 3 hts gX4_nextToken_X4_in rfl rfl rfl (by decide +kernel) ⟨Nat.le_of_ble_eq_true rfl, Nat.le_of_ble_eq_true rfl⟩) (ro_pre hK (fun k q h => by simp at h)) rfl rfl hl.1 rfl (lv_room (Nat.le_of_ble_eq_true rfl)) dX4_nextToken_64 ⟨Nat.zero_le _, Nat.zero_le _⟩) (fun r_1 hr_1 => ?_)
      refine lv_if_eq (tgt := 74) hx hb dX4_nextToken_67 (by decide) (fun c_67 => ?_) (fun c_67 => ?_)
      · skip
        have c_67 := b2_z hr_1 c_67
        refine lv_aload_n hx hb dX4_nextToken_74 rfl (lv_at hl 0 rfl) ?_
        refine lz_get (G := G) (ci := 4) (v := .int (tb C)) (C := RX4) (T := TX4) (N := 24) hx hb hu_wsX40 (fun _ h9 => h9) hown hK hP 0 rfl rfl 15 (by decide) hw6 rfl rfl dX4_nextToken_75 ?_
        refine lv_i2l hx hb dX4_nextToken_78 rfl ?_
        refine lv_ldc2 hx hb hown hw9 dX4_nextToken_79 ?_
        refine lv_ldc2 hx hb hown hw10 dX4_nextToken_82 ?_
        refine ro_calli (va_runS (As := [.long ((tb C).toInt64), .long 48, .long 57]) (rest := [.ref m]) ⟨hx, hb, hml, hown, hts⟩ (c_X4_in l G ((tb C).toInt64) 48 57 ) (cwS 3 hts gX4_nextToken_X4_in rfl rfl rfl (by decide +kernel) ⟨Nat.le_of_ble_eq_true rfl, Nat.le_of_ble_eq_true rfl⟩) (ro_pre hK (fun k q h => by simp at h)) rfl rfl hl.1 rfl (lv_room (Nat.le_of_ble_eq_true rfl)) dX4_nextToken_85 ⟨Nat.zero_le _, Nat.zero_le _⟩) (fun r_2 hr_2 => ?_)
        refine lv_if_eq (tgt := 95) hx hb dX4_nextToken_88 (by decide) (fun c_88 => ?_) (fun c_88 => ?_)
        · skip
          have c_88 := b2_z hr_2 c_88
          exact Bool.noConfusion (hdL.symm.trans c_88)
        · skip
          have c_88 := b2_n hr_2 c_88
          refine lv_iconst (v := 3) hx hb dX4_nextToken_91 (by decide) ?_
          refine lv_goto (tgt := 118) hx hb dX4_nextToken_92 (by decide) ?_
          refine lz_put (G := G) (ci := 4) (C := RX4) (T := TX4) (N := 24) hx hb hu_wsX40 (fun _ h9 => h9) tyX4 tyX4_ok nmX4 hown hK hP hD hS 0 rfl rfl 14 (by decide) hw11 rfl rfl (by decide +kernel) (Nat.le_of_ble_eq_true rfl) dX4_nextToken_118 (lzM m q (upd (upd (upd S 13 (S 12)) 15 (tb C)) 14 3) ++ lzI G (q 10) 120 tb) rfl (fun H locs hP hD hS => ?_)
          refine lv_aload_n hx hb dX4_nextToken_121 rfl (lv_at hl 0 rfl) ?_
          refine lv_dup hx hb dX4_nextToken_122 rfl ?_
          refine lz_get (G := G) (ci := 4) (v := .int (S 12)) (C := RX4) (T := TX4) (N := 24) hx hb hu_wsX40 (fun _ h9 => h9) hown hK hP 0 rfl rfl 12 (by decide) hw1 rfl rfl dX4_nextToken_123 ?_
          refine lv_aload_n hx hb dX4_nextToken_126 rfl (lv_at hl 0 rfl) ?_
          refine lz_get (G := G) (ci := 4) (v := .int (S 12)) (C := RX4) (T := TX4) (N := 24) hx hb hu_wsX40 (fun _ h9 => h9) hown hK hP 0 rfl rfl 12 (by decide) hw1 rfl rfl dX4_nextToken_127 ?_
          refine lv_aload_n hx hb dX4_nextToken_130 rfl (lv_at hl 0 rfl) ?_
          refine lz_get (G := G) (ci := 4) (v := .int (S 11)) (C := RX4) (T := TX4) (N := 24) hx hb hu_wsX40 (fun _ h9 => h9) hown hK hP 0 rfl rfl 11 (by decide) hw3 rfl rfl dX4_nextToken_131 ?_
          refine lv_icmp_ge (tgt := 141) hx hb dX4_nextToken_134 (by decide) (fun c_134 => ?_) (fun c_134 => ?_)
          · skip
            have c_134' := Int32.not_lt.mpr c_134
            exact absurd c_134 (by rw [hC, hL]; exact nI_ge hlt (by omega))
          · skip
            have c_134' := Int32.not_le.mp c_134
            refine lv_iconst (v := 1) hx hb dX4_nextToken_137 (by decide) ?_
            refine lv_goto (tgt := 142) hx hb dX4_nextToken_138 (by decide) ?_
            refine lv_iadd hx hb dX4_nextToken_142 ?_
            refine lz_top (y := nI (C + 1)) (by rw [hC]; exact nI_1 _) ?_
            refine lz_put (G := G) (ci := 4) (C := RX4) (T := TX4) (N := 24) hx hb hu_wsX40 (fun _ h9 => h9) tyX4 tyX4_ok nmX4 hown hK hP hD hS 0 rfl rfl 12 (by decide) hw1 rfl rfl (by decide +kernel) (Nat.le_of_ble_eq_true rfl) dX4_nextToken_143 (lzM m q (upd (upd (upd (upd S 13 (S 12)) 15 (tb C)) 14 3) 12 (nI (C + 1))) ++ lzI G (q 10) 120 tb) rfl (fun H locs hP hD hS => ?_)
            refine lv_aload_n hx hb dX4_nextToken_146 rfl (lv_at hl 0 rfl) ?_
            refine lz_get (G := G) (ci := 4) (v := .int 3) (C := RX4) (T := TX4) (N := 24) hx hb hu_wsX40 (fun _ h9 => h9) hown hK hP 0 rfl rfl 14 (by decide) hw11 rfl rfl dX4_nextToken_147 ?_
            refine lv_iconst (v := 3) hx hb dX4_nextToken_150 (by decide) ?_
            refine lv_icmp_ne (tgt := 277) hx hb dX4_nextToken_151 (by decide) (fun c_151 => ?_) (fun c_151 => ?_)
            · skip
              exact False.elim (by revert c_151; decide)
            · skip
              refine lv_aload_n hx hb dX4_nextToken_154 rfl (lv_at hl 0 rfl) ?_
              refine lv_dup hx hb dX4_nextToken_155 rfl ?_
              refine lz_get (G := G) (ci := 4) (v := .int (tb C)) (C := RX4) (T := TX4) (N := 24) hx hb hu_wsX40 (fun _ h9 => h9) hown hK hP 0 rfl rfl 15 (by decide) hw6 rfl rfl dX4_nextToken_156 ?_
              refine lv_bipush (v := 48) hx hb dX4_nextToken_159 (by decide) ?_
              refine lv_isub hx hb dX4_nextToken_161 ?_
              refine lz_put (G := G) (ci := 4) (C := RX4) (T := TX4) (N := 24) hx hb hu_wsX40 (fun _ h9 => h9) tyX4 tyX4_ok nmX4 hown hK hP hD hS 0 rfl rfl 15 (by decide) hw6 rfl rfl (by decide +kernel) (Nat.le_of_ble_eq_true rfl) dX4_nextToken_162 (lzM m q (upd (upd (upd (upd S 13 (S 12)) 14 3) 12 (nI (C + 1))) 15 ((tb C) - 48)) ++ lzI G (q 10) 120 tb) rfl (fun H locs hP hD hS => ?_)
              have J_165 : ∀ (n9 : Nat), ∀ (k : Nat), (1 ≤ k) → (C + k ≤ L) → (figN tb L C = k + figN tb L (C + k)) → L + 1 - (C + k) < n9 → ∀ (H : Heap) (locs : List Loc), va_P G.1 lzC (lzM m q (upd (upd (upd (upd S 13 (S 12)) 14 3) 12 (nI (C + k))) 15 (numF tb L C (numK k))) ++ lzI G (q 10) 120 tb) H → va_D A (lzM m q (upd (upd (upd (upd S 13 (S 12)) 14 3) 12 (nI (C + k))) 15 (numF tb L C (numK k))) ++ lzI G (q 10) 120 tb) → va_S A ss.heap H locs → ∀ ls : Array Slot, lv_has ls 1 [(0, .ref m)] → W pp l ee ({ frames := 1, cells := 0, slots := 0, locals := 27 }) ss mm ([.ref m] : List Value).toArray bl me cd H locs 0 0 (MQ bl (va_Qv (S := Unit) (fun _ : Unit => True) (rwB G (fun _ : Unit => (lzM m q (upd (upd (upd (upd S 13 (S 12)) 15 (numV tb L C)) 14 (if 2 < figN tb L C then 0 else 3)) 12 (nI (C + figN tb L C))) ++ lzI G (q 10) 120 tb))) A) ([.ref m] : List Value).toArray ss 0 0 A) (F0 mm 165 ls []) := by
                intro n9
                induction n9 with
                | zero => intro k hk1 hk hfig hn; exact absurd hn (Nat.not_lt_zero _)
                | succ n9 ih_165 =>
                  intro k hk1 hk hfig hn_165 H locs hP hD hS ls hl
                  refine lv_aload_n hx hb dX4_nextToken_165 rfl (lv_at hl 0 rfl) ?_
                  refine lz_get (G := G) (ci := 4) (v := .int (nI (C + k))) (C := RX4) (T := TX4) (N := 24) hx hb hu_wsX40 (fun _ h9 => h9) hown hK hP 0 rfl rfl 12 (by decide) hw1 rfl rfl dX4_nextToken_166 ?_
                  refine lv_aload_n hx hb dX4_nextToken_169 rfl (lv_at hl 0 rfl) ?_
                  refine lz_get (G := G) (ci := 4) (v := .int (S 11)) (C := RX4) (T := TX4) (N := 24) hx hb hu_wsX40 (fun _ h9 => h9) hown hK hP 0 rfl rfl 11 (by decide) hw3 rfl rfl dX4_nextToken_170 ?_
                  refine lv_icmp_ge (tgt := 255) hx hb dX4_nextToken_173 (by decide) (fun c_173 => ?_) (fun c_173 => ?_)
                  · skip
                    have c_173' := Int32.not_lt.mpr c_173
                    have hk2 : L ≤ C + k := lz_ge hL c_173 (by omega) (by omega)
                    have hn : figN tb L C = k := by rw [hfig, figN_end hk2]; rfl
                    refine lv_aload_n hx hb dX4_nextToken_255 rfl (lv_at hl 0 rfl) ?_
                    refine lv_aload_n hx hb dX4_nextToken_256 rfl (lv_at hl 0 rfl) ?_
                    refine lz_get (G := G) (ci := 4) (v := .int (nI (C + k))) (C := RX4) (T := TX4) (N := 24) hx hb hu_wsX40 (fun _ h9 => h9) hown hK hP 0 rfl rfl 12 (by decide) hw1 rfl rfl dX4_nextToken_257 ?_
                    refine lv_aload_n hx hb dX4_nextToken_260 rfl (lv_at hl 0 rfl) ?_
                    refine lz_get (G := G) (ci := 4) (v := .int (S 12)) (C := RX4) (T := TX4) (N := 24) hx hb hu_wsX40 (fun _ h9 => h9) hown hK hP 0 rfl rfl 13 (by decide) hw2 rfl rfl dX4_nextToken_261 ?_
                    refine lv_isub hx hb dX4_nextToken_264 ?_
                    refine lz_top (y := nI k) (by rw [hC, pk_sub (by omega)]; congr 1; omega) ?_
                    refine lv_iconst (v := 2) hx hb dX4_nextToken_265 (by decide) ?_
                    refine lv_icmp_le (tgt := 273) hx hb dX4_nextToken_266 (by decide) (fun c_266 => ?_) (fun c_266 => ?_)
                    · skip
                      have c_266' := Int32.not_lt.mpr c_266
                      have c_266 : ¬ 2 < k := fun h9 => absurd ((nI_leI (b := 2) (by omega) (by omega)).mp c_266) (by omega)
                      refine lv_iconst (v := 3) hx hb dX4_nextToken_273 (by decide) ?_
                      refine lz_put (G := G) (ci := 4) (C := RX4) (T := TX4) (N := 24) hx hb hu_wsX40 (fun _ h9 => h9) tyX4 tyX4_ok nmX4 hown hK hP hD hS 0 rfl rfl 14 (by decide) hw11 rfl rfl (by decide +kernel) (Nat.le_of_ble_eq_true rfl) dX4_nextToken_274 (lzM m q (upd (upd (upd (upd S 13 (S 12)) 12 (nI (C + k))) 15 (numF tb L C (numK k))) 14 3) ++ lzI G (q 10) 120 tb) rfl (fun H locs hP hD hS => ?_)
                      exact rw_vret (S := Unit) (G := G) (Wd := fun _ : Unit => (lzM m q (upd (upd (upd (upd S 13 (S 12)) 15 (numV tb L C)) 14 (if 2 < figN tb L C then 0 else 3)) 12 (nI (C + figN tb L C))) ++ lzI G (q 10) 120 tb)) () hx hb hr hlk dX4_nextToken_277 hS (by show va_P G.1 lzC (lzM m q (upd (upd (upd (upd S 13 (S 12)) 15 (numV tb L C)) 14 (if 2 < figN tb L C then 0 else 3)) 12 (nI (C + figN tb L C))) ++ lzI G (q 10) 120 tb) _; unfold numV; rw [hn]; first | (rw [if_pos c_266]; exact hP) | (rw [if_neg c_266]; exact hP)) (trivial)
                    · skip
                      have c_266' := Int32.not_le.mp c_266
                      have c_266 : 2 < k := (nI_ltI (a := 2) (by omega) (by omega)).mp c_266'
                      refine lv_iconst (v := 0) hx hb dX4_nextToken_269 (by decide) ?_
                      refine lv_goto (tgt := 274) hx hb dX4_nextToken_270 (by decide) ?_
                      refine lz_put (G := G) (ci := 4) (C := RX4) (T := TX4) (N := 24) hx hb hu_wsX40 (fun _ h9 => h9) tyX4 tyX4_ok nmX4 hown hK hP hD hS 0 rfl rfl 14 (by decide) hw11 rfl rfl (by decide +kernel) (Nat.le_of_ble_eq_true rfl) dX4_nextToken_274 (lzM m q (upd (upd (upd (upd S 13 (S 12)) 12 (nI (C + k))) 15 (numF tb L C (numK k))) 14 0) ++ lzI G (q 10) 120 tb) rfl (fun H locs hP hD hS => ?_)
                      exact rw_vret (S := Unit) (G := G) (Wd := fun _ : Unit => (lzM m q (upd (upd (upd (upd S 13 (S 12)) 15 (numV tb L C)) 14 (if 2 < figN tb L C then 0 else 3)) 12 (nI (C + figN tb L C))) ++ lzI G (q 10) 120 tb)) () hx hb hr hlk dX4_nextToken_277 hS (by show va_P G.1 lzC (lzM m q (upd (upd (upd (upd S 13 (S 12)) 15 (numV tb L C)) 14 (if 2 < figN tb L C then 0 else 3)) 12 (nI (C + figN tb L C))) ++ lzI G (q 10) 120 tb) _; unfold numV; rw [hn]; first | (rw [if_pos c_266]; exact hP) | (rw [if_neg c_266]; exact hP)) (trivial)
                  · skip
                    have c_173' := Int32.not_le.mp c_173
                    have hk2 : C + k < L := lz_lt hL c_173 (by omega) (by omega)
                    refine lv_aload_n hx hb dX4_nextToken_176 rfl (lv_at hl 0 rfl) ?_
                    refine lz_get (G := G) (ci := 4) (v := .ref (q 10)) (C := RX4) (T := TX4) (N := 24) hx hb hu_wsX40 (fun _ h9 => h9) hown hK hP 0 rfl rfl 10 (by decide) hw4 rfl rfl dX4_nextToken_177 ?_
                    refine lv_aload_n hx hb dX4_nextToken_180 rfl (lv_at hl 0 rfl) ?_
                    refine lz_get (G := G) (ci := 4) (v := .int (nI (C + k))) (C := RX4) (T := TX4) (N := 24) hx hb hu_wsX40 (fun _ h9 => h9) hown hK hP 0 rfl rfl 12 (by decide) hw1 rfl rfl dX4_nextToken_181 ?_
                    refine lz_iald (f := tb) hx hb hK hP 1 rfl (C + k) (by omega) (Nat.le_of_ble_eq_true rfl) dX4_nextToken_184 ?_
                    refine lv_i2l hx hb dX4_nextToken_185 rfl ?_
                    refine lv_ldc2 hx hb hown hw9 dX4_nextToken_186 ?_
                    refine lv_ldc2 hx hb hown hw10 dX4_nextToken_189 ?_
                    refine ro_calli (va_runS (As := [.long ((tb (C + k)).toInt64), .long 48, .long 57]) (rest := []) ⟨hx, hb, hml, hown, hts⟩ (c_X4_in l G ((tb (C + k)).toInt64) 48 57 ) (cwS 3 hts gX4_nextToken_X4_in rfl rfl rfl (by decide +kernel) ⟨Nat.le_of_ble_eq_true rfl, Nat.le_of_ble_eq_true rfl⟩) (ro_pre hK (fun k q h => by simp at h)) rfl rfl hl.1 rfl (lv_room (Nat.le_of_ble_eq_true rfl)) dX4_nextToken_192 ⟨Nat.zero_le _, Nat.zero_le _⟩) (fun r_3 hr_3 => ?_)
                    refine lv_if_eq (tgt := 255) hx hb dX4_nextToken_195 (by decide) (fun c_195 => ?_) (fun c_195 => ?_)
                    · skip
                      have c_195 := b2_z hr_3 c_195
                      have c_195 : digB (tb (C + k)) = false := (inL_of _ _ _).symm.trans c_195
                      have hn : figN tb L C = k := by rw [hfig, figN_out (by omega) c_195]; rfl
                      refine lv_aload_n hx hb dX4_nextToken_255 rfl (lv_at hl 0 rfl) ?_
                      refine lv_aload_n hx hb dX4_nextToken_256 rfl (lv_at hl 0 rfl) ?_
                      refine lz_get (G := G) (ci := 4) (v := .int (nI (C + k))) (C := RX4) (T := TX4) (N := 24) hx hb hu_wsX40 (fun _ h9 => h9) hown hK hP 0 rfl rfl 12 (by decide) hw1 rfl rfl dX4_nextToken_257 ?_
                      refine lv_aload_n hx hb dX4_nextToken_260 rfl (lv_at hl 0 rfl) ?_
                      refine lz_get (G := G) (ci := 4) (v := .int (S 12)) (C := RX4) (T := TX4) (N := 24) hx hb hu_wsX40 (fun _ h9 => h9) hown hK hP 0 rfl rfl 13 (by decide) hw2 rfl rfl dX4_nextToken_261 ?_
                      refine lv_isub hx hb dX4_nextToken_264 ?_
                      refine lz_top (y := nI k) (by rw [hC, pk_sub (by omega)]; congr 1; omega) ?_
                      refine lv_iconst (v := 2) hx hb dX4_nextToken_265 (by decide) ?_
                      refine lv_icmp_le (tgt := 273) hx hb dX4_nextToken_266 (by decide) (fun c_266 => ?_) (fun c_266 => ?_)
                      · skip
                        have c_266' := Int32.not_lt.mpr c_266
                        have c_266 : ¬ 2 < k := fun h9 => absurd ((nI_leI (b := 2) (by omega) (by omega)).mp c_266) (by omega)
                        refine lv_iconst (v := 3) hx hb dX4_nextToken_273 (by decide) ?_
                        refine lz_put (G := G) (ci := 4) (C := RX4) (T := TX4) (N := 24) hx hb hu_wsX40 (fun _ h9 => h9) tyX4 tyX4_ok nmX4 hown hK hP hD hS 0 rfl rfl 14 (by decide) hw11 rfl rfl (by decide +kernel) (Nat.le_of_ble_eq_true rfl) dX4_nextToken_274 (lzM m q (upd (upd (upd (upd S 13 (S 12)) 12 (nI (C + k))) 15 (numF tb L C (numK k))) 14 3) ++ lzI G (q 10) 120 tb) rfl (fun H locs hP hD hS => ?_)
                        exact rw_vret (S := Unit) (G := G) (Wd := fun _ : Unit => (lzM m q (upd (upd (upd (upd S 13 (S 12)) 15 (numV tb L C)) 14 (if 2 < figN tb L C then 0 else 3)) 12 (nI (C + figN tb L C))) ++ lzI G (q 10) 120 tb)) () hx hb hr hlk dX4_nextToken_277 hS (by show va_P G.1 lzC (lzM m q (upd (upd (upd (upd S 13 (S 12)) 15 (numV tb L C)) 14 (if 2 < figN tb L C then 0 else 3)) 12 (nI (C + figN tb L C))) ++ lzI G (q 10) 120 tb) _; unfold numV; rw [hn]; first | (rw [if_pos c_266]; exact hP) | (rw [if_neg c_266]; exact hP)) (trivial)
                      · skip
                        have c_266' := Int32.not_le.mp c_266
                        have c_266 : 2 < k := (nI_ltI (a := 2) (by omega) (by omega)).mp c_266'
                        refine lv_iconst (v := 0) hx hb dX4_nextToken_269 (by decide) ?_
                        refine lv_goto (tgt := 274) hx hb dX4_nextToken_270 (by decide) ?_
                        refine lz_put (G := G) (ci := 4) (C := RX4) (T := TX4) (N := 24) hx hb hu_wsX40 (fun _ h9 => h9) tyX4 tyX4_ok nmX4 hown hK hP hD hS 0 rfl rfl 14 (by decide) hw11 rfl rfl (by decide +kernel) (Nat.le_of_ble_eq_true rfl) dX4_nextToken_274 (lzM m q (upd (upd (upd (upd S 13 (S 12)) 12 (nI (C + k))) 15 (numF tb L C (numK k))) 14 0) ++ lzI G (q 10) 120 tb) rfl (fun H locs hP hD hS => ?_)
                        exact rw_vret (S := Unit) (G := G) (Wd := fun _ : Unit => (lzM m q (upd (upd (upd (upd S 13 (S 12)) 15 (numV tb L C)) 14 (if 2 < figN tb L C then 0 else 3)) 12 (nI (C + figN tb L C))) ++ lzI G (q 10) 120 tb)) () hx hb hr hlk dX4_nextToken_277 hS (by show va_P G.1 lzC (lzM m q (upd (upd (upd (upd S 13 (S 12)) 15 (numV tb L C)) 14 (if 2 < figN tb L C then 0 else 3)) 12 (nI (C + figN tb L C))) ++ lzI G (q 10) 120 tb) _; unfold numV; rw [hn]; first | (rw [if_pos c_266]; exact hP) | (rw [if_neg c_266]; exact hP)) (trivial)
                    · skip
                      have c_195 := b2_n hr_3 c_195
                      have c_195 : digB (tb (C + k)) = true := (inL_of _ _ _).symm.trans c_195
                      refine lv_aload_n hx hb dX4_nextToken_198 rfl (lv_at hl 0 rfl) ?_
                      refine lv_aload_n hx hb dX4_nextToken_199 rfl (lv_at hl 0 rfl) ?_
                      refine lz_get (G := G) (ci := 4) (v := .int (nI (C + k))) (C := RX4) (T := TX4) (N := 24) hx hb hu_wsX40 (fun _ h9 => h9) hown hK hP 0 rfl rfl 12 (by decide) hw1 rfl rfl dX4_nextToken_200 ?_
                      refine lv_aload_n hx hb dX4_nextToken_203 rfl (lv_at hl 0 rfl) ?_
                      refine lz_get (G := G) (ci := 4) (v := .int (S 12)) (C := RX4) (T := TX4) (N := 24) hx hb hu_wsX40 (fun _ h9 => h9) hown hK hP 0 rfl rfl 13 (by decide) hw2 rfl rfl dX4_nextToken_204 ?_
                      refine lv_isub hx hb dX4_nextToken_207 ?_
                      refine lz_top (y := nI k) (by rw [hC, pk_sub (by omega)]; congr 1; omega) ?_
                      refine lv_iconst (v := 2) hx hb dX4_nextToken_208 (by decide) ?_
                      refine lv_icmp_ge (tgt := 235) hx hb dX4_nextToken_209 (by decide) (fun c_209 => ?_) (fun c_209 => ?_)
                      · skip
                        have c_209' := Int32.not_lt.mpr c_209
                        have c_209 : 2 ≤ k := (nI_leI (a := 2) (by omega) (by omega)).mp c_209
                        refine lv_aload_n hx hb dX4_nextToken_235 rfl (lv_at hl 0 rfl) ?_
                        refine lz_get (G := G) (ci := 4) (v := .int (numF tb L C (numK k))) (C := RX4) (T := TX4) (N := 24) hx hb hu_wsX40 (fun _ h9 => h9) hown hK hP 0 rfl rfl 15 (by decide) hw6 rfl rfl dX4_nextToken_236 ?_
                        refine lz_put (G := G) (ci := 4) (C := RX4) (T := TX4) (N := 24) hx hb hu_wsX40 (fun _ h9 => h9) tyX4 tyX4_ok nmX4 hown hK hP hD hS 0 rfl rfl 15 (by decide) hw6 rfl rfl (by decide +kernel) (Nat.le_of_ble_eq_true rfl) dX4_nextToken_239 (lzM m q (upd (upd (upd (upd S 13 (S 12)) 14 3) 12 (nI (C + k))) 15 (numF tb L C (numK k))) ++ lzI G (q 10) 120 tb) rfl (fun H locs hP hD hS => ?_)
                        refine lv_aload_n hx hb dX4_nextToken_242 rfl (lv_at hl 0 rfl) ?_
                        refine lv_dup hx hb dX4_nextToken_243 rfl ?_
                        refine lz_get (G := G) (ci := 4) (v := .int (nI (C + k))) (C := RX4) (T := TX4) (N := 24) hx hb hu_wsX40 (fun _ h9 => h9) hown hK hP 0 rfl rfl 12 (by decide) hw1 rfl rfl dX4_nextToken_244 ?_
                        refine lv_iconst (v := 1) hx hb dX4_nextToken_247 (by decide) ?_
                        refine lv_iadd hx hb dX4_nextToken_248 ?_
                        refine lz_top (y := nI (C + (k + 1))) (nI_1 _) ?_
                        refine lz_put (G := G) (ci := 4) (C := RX4) (T := TX4) (N := 24) hx hb hu_wsX40 (fun _ h9 => h9) tyX4 tyX4_ok nmX4 hown hK hP hD hS 0 rfl rfl 12 (by decide) hw1 rfl rfl (by decide +kernel) (Nat.le_of_ble_eq_true rfl) dX4_nextToken_249 (lzM m q (upd (upd (upd (upd S 13 (S 12)) 14 3) 15 (numF tb L C (numK k))) 12 (nI (C + (k + 1)))) ++ lzI G (q 10) 120 tb) rfl (fun H locs hP hD hS => ?_)
                        refine lv_goto (tgt := 165) hx hb dX4_nextToken_252 (by decide) ?_
                        have hE_4 : numF tb L C (numK k) = numF tb L C (numK (k + 1)) := by first | exact numF_2 hk1 c_209 hk2 | exact numF_3 c_209
                        replace hP : va_P G.1 lzC (lzM m q (upd (upd (upd (upd S 13 (S 12)) 14 3) 12 (nI (C + (k + 1)))) 15 (numF tb L C (numK (k + 1)))) ++ lzI G (q 10) 120 tb) H := by rw [← hE_4]; exact hP
                        replace hD : va_D A (lzM m q (upd (upd (upd (upd S 13 (S 12)) 14 3) 12 (nI (C + (k + 1)))) 15 (numF tb L C (numK (k + 1)))) ++ lzI G (q 10) 120 tb) := by rw [← hE_4]; exact hD
                        exact ih_165 (k + 1) (by omega) (by omega) (by rw [hfig, figN_in hk2 c_195]; show k + (figN tb L (C + k + 1) + 1) = k + 1 + figN tb L (C + k + 1); omega) (by omega) _ _ hP hD hS _ (lv_sub hl [0] rfl)
                      · skip
                        have c_209' := Int32.not_le.mp c_209
                        have c_209 : k < 2 := (nI_ltI (b := 2) (by omega) (by omega)).mp c_209'
                        refine lv_bipush (v := 10) hx hb dX4_nextToken_212 (by decide) ?_
                        refine lv_aload_n hx hb dX4_nextToken_214 rfl (lv_at hl 0 rfl) ?_
                        refine lz_get (G := G) (ci := 4) (v := .int (numF tb L C (numK k))) (C := RX4) (T := TX4) (N := 24) hx hb hu_wsX40 (fun _ h9 => h9) hown hK hP 0 rfl rfl 15 (by decide) hw6 rfl rfl dX4_nextToken_215 ?_
                        refine lv_imul hx hb dX4_nextToken_218 ?_
                        refine lv_aload_n hx hb dX4_nextToken_219 rfl (lv_at hl 0 rfl) ?_
                        refine lz_get (G := G) (ci := 4) (v := .ref (q 10)) (C := RX4) (T := TX4) (N := 24) hx hb hu_wsX40 (fun _ h9 => h9) hown hK hP 0 rfl rfl 10 (by decide) hw4 rfl rfl dX4_nextToken_220 ?_
                        refine lv_aload_n hx hb dX4_nextToken_223 rfl (lv_at hl 0 rfl) ?_
                        refine lz_get (G := G) (ci := 4) (v := .int (nI (C + k))) (C := RX4) (T := TX4) (N := 24) hx hb hu_wsX40 (fun _ h9 => h9) hown hK hP 0 rfl rfl 12 (by decide) hw1 rfl rfl dX4_nextToken_224 ?_
                        refine lz_iald (f := tb) hx hb hK hP 1 rfl (C + k) (by omega) (Nat.le_of_ble_eq_true rfl) dX4_nextToken_227 ?_
                        refine lv_iadd hx hb dX4_nextToken_228 ?_
                        refine lv_bipush (v := 48) hx hb dX4_nextToken_229 (by decide) ?_
                        refine lv_isub hx hb dX4_nextToken_231 ?_
                        refine lv_goto (tgt := 239) hx hb dX4_nextToken_232 (by decide) ?_
                        refine lz_put (G := G) (ci := 4) (C := RX4) (T := TX4) (N := 24) hx hb hu_wsX40 (fun _ h9 => h9) tyX4 tyX4_ok nmX4 hown hK hP hD hS 0 rfl rfl 15 (by decide) hw6 rfl rfl (by decide +kernel) (Nat.le_of_ble_eq_true rfl) dX4_nextToken_239 (lzM m q (upd (upd (upd (upd S 13 (S 12)) 14 3) 12 (nI (C + k))) 15 (((10 * (numF tb L C (numK k))) + (tb (C + k))) - 48)) ++ lzI G (q 10) 120 tb) rfl (fun H locs hP hD hS => ?_)
                        refine lv_aload_n hx hb dX4_nextToken_242 rfl (lv_at hl 0 rfl) ?_
                        refine lv_dup hx hb dX4_nextToken_243 rfl ?_
                        refine lz_get (G := G) (ci := 4) (v := .int (nI (C + k))) (C := RX4) (T := TX4) (N := 24) hx hb hu_wsX40 (fun _ h9 => h9) hown hK hP 0 rfl rfl 12 (by decide) hw1 rfl rfl dX4_nextToken_244 ?_
                        refine lv_iconst (v := 1) hx hb dX4_nextToken_247 (by decide) ?_
                        refine lv_iadd hx hb dX4_nextToken_248 ?_
                        refine lz_top (y := nI (C + (k + 1))) (nI_1 _) ?_
                        refine lz_put (G := G) (ci := 4) (C := RX4) (T := TX4) (N := 24) hx hb hu_wsX40 (fun _ h9 => h9) tyX4 tyX4_ok nmX4 hown hK hP hD hS 0 rfl rfl 12 (by decide) hw1 rfl rfl (by decide +kernel) (Nat.le_of_ble_eq_true rfl) dX4_nextToken_249 (lzM m q (upd (upd (upd (upd S 13 (S 12)) 14 3) 15 (((10 * (numF tb L C (numK k))) + (tb (C + k))) - 48)) 12 (nI (C + (k + 1)))) ++ lzI G (q 10) 120 tb) rfl (fun H locs hP hD hS => ?_)
                        refine lv_goto (tgt := 165) hx hb dX4_nextToken_252 (by decide) ?_
                        have hE_5 : ((10 * (numF tb L C (numK k))) + (tb (C + k))) - 48 = numF tb L C (numK (k + 1)) := by first | exact numF_2 hk1 c_209 hk2 | exact numF_3 c_209
                        replace hP : va_P G.1 lzC (lzM m q (upd (upd (upd (upd S 13 (S 12)) 14 3) 12 (nI (C + (k + 1)))) 15 (numF tb L C (numK (k + 1)))) ++ lzI G (q 10) 120 tb) H := by rw [← hE_5]; exact hP
                        replace hD : va_D A (lzM m q (upd (upd (upd (upd S 13 (S 12)) 14 3) 12 (nI (C + (k + 1)))) 15 (numF tb L C (numK (k + 1)))) ++ lzI G (q 10) 120 tb) := by rw [← hE_5]; exact hD
                        exact ih_165 (k + 1) (by omega) (by omega) (by rw [hfig, figN_in hk2 c_195]; show k + (figN tb L (C + k + 1) + 1) = k + 1 + figN tb L (C + k + 1); omega) (by omega) _ _ hP hD hS _ (lv_sub hl [0] rfl)
              have hE_6 : (tb C) - 48 = numF tb L C (numK 1) := numF_1 hlt
              replace hP : va_P G.1 lzC (lzM m q (upd (upd (upd (upd S 13 (S 12)) 14 3) 12 (nI (C + 1))) 15 (numF tb L C (numK 1))) ++ lzI G (q 10) 120 tb) H := by rw [← hE_6]; exact hP
              replace hD : va_D A (lzM m q (upd (upd (upd (upd S 13 (S 12)) 14 3) 12 (nI (C + 1))) 15 (numF tb L C (numK 1))) ++ lzI G (q 10) 120 tb) := by rw [← hE_6]; exact hD
              exact J_165 _ 1 (Nat.le_refl 1) (hlt) (by rw [figN_in hlt hdig]; exact Nat.add_comm _ _) (Nat.lt_succ_self _) _ _ hP hD hS _ (lv_sub hl [0] rfl)
      · skip
        have c_67 := b2_n hr_1 c_67
        exact Bool.noConfusion (hdN.symm.trans c_67)
    · skip
      exact absurd ((nI_eq (by omega) (by omega)).mp (hC.symm.trans (c_46.trans hL))) (by omega)
theorem c_X4_next (l : Launch) (G : lzG) (m : Nat) (q : Nat → Nat) (S : Nat → Int32) (tb : Nat → Int32) (L C : Nat) (hL : S 11 = nI L) (hC : S 12 = nI C) (hL1 : L ≤ 120) (hCL : C ≤ L) : Met l yX4_nextToken wsX4_nextToken ({ frames := 1, cells := 0, slots := 0, locals := 27 }) (va_Pc [.ref m] (rwP G (lzM m q S ++ lzI G (q 10) 120 tb))) (va_Qv (S := Nat → Int32) (fun u9 => npM u9 tb L C ∧ elN S u9) (rwB G (fun u9 : Nat → Int32 => lzM m q u9 ++ lzI G (q 10) 120 tb)) (lzA (lzM m q S ++ lzI G (q 10) 120 tb))) 0 0 (lzA (lzM m q S ++ lzI G (q 10) 120 tb)) := by
  by_cases hlt : C < L
  · cases hd : digB (tb C)
    · obtain ⟨e1, e2, e3⟩ := plain_at hlt hd
      refine met_v (c_X4_nextToken_plain l G m q S tb L C hL hC hL1 hlt hd) (upd (upd (upd (upd S 13 (S 12)) 15 (tb C)) 14 (tokP (tb C))) 12 (nI (C + 1))) rfl ⟨⟨hC, e1.symm, e2.symm, ?_⟩, ?_⟩
      · show nI (C + 1) = nI (endT tb L C)
        rw [e3]
      · exact elN_t (elN_t (elN_t (elN_at (by decide)) (elN_at (by decide))) (elN_at (by decide))) (elN_at (by decide))
    · refine met_v (c_X4_nextToken_fig l G m q S tb L C hL hC hL1 hlt hd) (upd (upd (upd (upd S 13 (S 12)) 15 (numV tb L C)) 14 (if 2 < figN tb L C then 0 else 3)) 12 (nI (C + figN tb L C))) rfl ⟨⟨hC, ?_, ?_, ?_⟩, ?_⟩
      · show (if 2 < figN tb L C then 0 else 3) = tokT tb L C
        unfold tokT
        rw [if_pos hlt, hd]
        rfl
      · show numV tb L C = valT tb L C
        unfold valT
        rw [if_pos hlt, hd]
        rfl
      · show nI (C + figN tb L C) = nI (endT tb L C)
        unfold endT
        rw [if_pos hlt, hd]
        rfl
      · exact elN_t (elN_t (elN_t (elN_at (by decide)) (elN_at (by decide))) (elN_at (by decide))) (elN_at (by decide))
  · have e : C = L := by omega
    subst e
    refine met_v (c_X4_nextToken_end l G m q S tb C hL hC hL1) (upd (upd (upd (upd S 13 (S 12)) 15 (-1000000)) 14 1) 12 (nI C)) rfl ⟨⟨hC, ?_, ?_, ?_⟩, ?_⟩
    · exact (if_neg hlt).symm
    · exact (if_neg hlt).symm
    · show nI C = nI (endT tb C C)
      unfold endT
      rw [if_neg hlt]
    · exact elN_t (elN_t (elN_t (elN_at (by decide)) (elN_at (by decide))) (elN_at (by decide))) (elN_at (by decide))
set_option maxHeartbeats 4000000 in
set_option maxRecDepth 100000 in
theorem c_X4_badR (l : Launch) (G : lzG) (m : Nat) (q : Nat → Nat) (S : Nat → Int32) (tb : Nat → Int32) (L : Nat) (z : Int32 × Nat) (k : Int32) (hR : rpM S tb L z) (hL1 : L ≤ 120) (hk : 0 < k) : Met l yX4_bad wsX4_bad ({ frames := 0, cells := 0, slots := 0, locals := 0 }) (va_Pc [.ref m, .int k] (rwP G (lzM m q S))) (va_Qv (S := Nat → Int32) (fun u9 => rpM u9 tb L (failI z.1 k, z.2) ∧ elM S u9) (rwB G (fun u9 : Nat → Int32 => lzM m q u9)) (lzA (lzM m q S))) 0 0 (lzA (lzM m q S)) := by
  refine rw_start (S := Nat → Int32) (cc := cX4_bad) (maxL := 2) (ret := none) (by decide) rfl (Nat.le_of_ble_eq_true rfl) ?_
  intro pp ee ss mm bl me cd A hx hb hr hlk hml hts hown hP hK hD hAe hS ls hl
  have hA0 : ∀ zz : Nat, lzA (lzM m q S) zz → A zz := fun zz h9 => by rw [hAe]; exact h9
  rw [← hAe]
  clear hAe
  have hown : ss.vm.findClass RX4 = some mm.cls := hown
  have hw1 := hts (.fieldLink RX4 79 "LampSquaresModel" "fault" "I") (List.mem_of_getElem? (i := 1) rfl)
  have hw2 := hts (.fieldLink RX4 82 "LampSquaresModel" "start" "I") (List.mem_of_getElem? (i := 2) rfl)
  have hw3 := hts (.fieldLink RX4 85 "LampSquaresModel" "faultAt" "I") (List.mem_of_getElem? (i := 3) rfl)
  have hu_wsX40 : ∀ w ∈ wsX40, w.before ([.ref m, .int k] : List Value).toArray ss = true := fun w h9 => hts w (List.mem_cons_of_mem _ (List.mem_append_right _ h9))
  have hl : lv_has ls 2 [(0, .ref m), (1, .int k)] := hl
  refine lv_aload_n hx hb dX4_bad_0 rfl (lv_at hl 0 rfl) ?_
  refine lz_get (G := G) (ci := 4) (v := .int (S 16)) (C := RX4) (T := TX4) (N := 24) hx hb hu_wsX40 (fun _ h9 => h9) hown hK hP 0 rfl rfl 16 (by decide) hw1 rfl rfl dX4_bad_1 ?_
  refine lv_if_ne (tgt := 20) hx hb dX4_bad_4 (by decide) (fun c_4 => ?_) (fun c_4 => ?_)
  · skip
    exact rw_vret (S := Nat → Int32) (G := G) (Wd := fun u9 : Nat → Int32 => lzM m q u9) S hx hb hr hlk dX4_bad_20 hS (hP) (by first | exact ⟨rpM_bad hR c_4 hk, elM_t (elM_at (by decide)) (elM_at (by decide))⟩ | exact ⟨rpM_same hR c_4, elM_r _⟩)
  · skip
    refine lv_aload_n hx hb dX4_bad_7 rfl (lv_at hl 0 rfl) ?_
    refine lv_iload_n hx hb dX4_bad_8 rfl (lv_at hl 1 rfl) ?_
    refine lz_put (G := G) (ci := 4) (C := RX4) (T := TX4) (N := 24) hx hb hu_wsX40 (fun _ h9 => h9) tyX4 tyX4_ok nmX4 hown hK hP hD hS 0 rfl rfl 16 (by decide) hw1 rfl rfl (by decide +kernel) (Nat.le_of_ble_eq_true rfl) dX4_bad_9 (lzM m q (upd S 16 k)) rfl (fun H locs hP hD hS => ?_)
    refine lv_aload_n hx hb dX4_bad_12 rfl (lv_at hl 0 rfl) ?_
    refine lv_aload_n hx hb dX4_bad_13 rfl (lv_at hl 0 rfl) ?_
    refine lz_get (G := G) (ci := 4) (v := .int (S 13)) (C := RX4) (T := TX4) (N := 24) hx hb hu_wsX40 (fun _ h9 => h9) hown hK hP 0 rfl rfl 13 (by decide) hw2 rfl rfl dX4_bad_14 ?_
    refine lz_put (G := G) (ci := 4) (C := RX4) (T := TX4) (N := 24) hx hb hu_wsX40 (fun _ h9 => h9) tyX4 tyX4_ok nmX4 hown hK hP hD hS 0 rfl rfl 17 (by decide) hw3 rfl rfl (by decide +kernel) (Nat.le_of_ble_eq_true rfl) dX4_bad_17 (lzM m q (upd (upd S 16 k) 17 (S 13))) rfl (fun H locs hP hD hS => ?_)
    exact rw_vret (S := Nat → Int32) (G := G) (Wd := fun u9 : Nat → Int32 => lzM m q u9) (upd (upd S 16 k) 17 (S 13)) hx hb hr hlk dX4_bad_20 hS (hP) (by first | exact ⟨rpM_bad hR c_4 hk, elM_t (elM_at (by decide)) (elM_at (by decide))⟩ | exact ⟨rpM_same hR c_4, elM_r _⟩)
set_option maxHeartbeats 4000000 in
set_option maxRecDepth 100000 in
theorem c_X4_mustR (l : Launch) (G : lzG) (m : Nat) (q : Nat → Nat) (S : Nat → Int32) (tb : Nat → Int32) (L : Nat) (z : Int32 × Nat) (b : Bool) (hR : rpM S tb L z) (hL1 : L ≤ 120) : Met l yX4_must wsX4_must ({ frames := 2, cells := 0, slots := 0, locals := 47 }) (va_Pc [.ref m, .int (b2 b)] (rwP G (lzM m q S ++ lzI G (q 10) 120 tb))) (va_Qv (S := Nat → Int32) (fun u9 => rpM u9 tb L (mstZ tb L b z) ∧ elM S u9) (rwB G (fun u9 : Nat → Int32 => (lzM m q u9 ++ lzI G (q 10) 120 tb))) (lzA (lzM m q S ++ lzI G (q 10) 120 tb))) 0 0 (lzA (lzM m q S ++ lzI G (q 10) 120 tb)) := by
  refine rw_start (S := Nat → Int32) (cc := cX4_must) (maxL := 2) (ret := none) (by decide) rfl (Nat.le_of_ble_eq_true rfl) ?_
  intro pp ee ss mm bl me cd A hx hb hr hlk hml hts hown hP hK hD hAe hS ls hl
  have hA0 : ∀ zz : Nat, lzA (lzM m q S ++ lzI G (q 10) 120 tb) zz → A zz := fun zz h9 => by rw [hAe]; exact h9
  rw [← hAe]
  clear hAe
  have hown : ss.vm.findClass RX4 = some mm.cls := hown
  have hw1 := hts (.fieldLink RX4 79 "LampSquaresModel" "fault" "I") (List.mem_of_getElem? (i := 1) rfl)
  have hu_wsX40 : ∀ w ∈ wsX40, w.before ([.ref m, .int (b2 b)] : List Value).toArray ss = true := fun w h9 => hts w (List.mem_cons_of_mem _ (List.mem_append_right _ h9))
  have hl : lv_has ls 2 [(0, .ref m), (1, .int (b2 b))] := hl
  refine lv_iload_n hx hb dX4_must_0 rfl (lv_at hl 1 rfl) ?_
  refine lv_if_ne (tgt := 9) hx hb dX4_must_1 (by decide) (fun c_1 => ?_) (fun c_1 => ?_)
  · skip
    have c_1 := b2_n rfl c_1
    subst c_1
    refine lv_aload_n hx hb dX4_must_9 rfl (lv_at hl 0 rfl) ?_
    refine lz_get (G := G) (ci := 4) (v := .int (S 16)) (C := RX4) (T := TX4) (N := 24) hx hb hu_wsX40 (fun _ h9 => h9) hown hK hP 0 rfl rfl 16 (by decide) hw1 rfl rfl dX4_must_10 ?_
    refine lv_if_ne (tgt := 20) hx hb dX4_must_13 (by decide) (fun c_13 => ?_) (fun c_13 => ?_)
    · skip
      exact rw_vret (S := Nat → Int32) (G := G) (Wd := fun u9 : Nat → Int32 => (lzM m q u9 ++ lzI G (q 10) 120 tb)) S hx hb hr hlk dX4_must_20 hS (hP) (by first | exact ⟨by rw [mstZ_f]; assumption, by assumption⟩ | exact ⟨by assumption, by assumption⟩ | exact ⟨by rw [mstZ_n (fun q9 => c_13 ((rpM_z hR).mpr q9))]; exact hR, elM_r _⟩)
    · skip
      refine lv_aload_n hx hb dX4_must_16 rfl (lv_at hl 0 rfl) ?_
      have hFc : ∀ zz : Nat, lzA (lzM m q S ++ lzI G (q 10) 120 tb) zz → A zz := lz_free hD [0, 1] rfl
      refine va_callv (va_runV (As := []) (rest := []) ⟨hx, hb, hml, hown, hts⟩ (c_X4_next l G m q S tb L (endT tb L z.2) (hR.1) ((hR.2.2.2.1 ((rpM_z hR).mp c_13)).2.2.2) (hL1) (endT_le hR.2.1)) (cwV 0 hts gX4_must_X4_nextToken rfl rfl rfl (by decide +kernel) ⟨Nat.le_of_ble_eq_true rfl, Nat.le_of_ble_eq_true rfl⟩) (rw_preV hK hP hD hP (ci := 4) (q0 := 0) rfl rfl) rfl rfl hl.1 rfl (lv_room (Nat.le_of_ble_eq_true rfl)) dX4_must_17 ⟨Nat.zero_le _, Nat.zero_le _⟩) hS (fun q _ h => hFc q h) hFc (fun u_3 t9 H1 locs ht hvm hr_2 hB hz1 hk1 hS => ?_)
      replace hB : va_P G.1 lzC _ t9.heap := hB
      rw [ht] at hB
      obtain ⟨hP, hD⟩ := lz_join (wc := (lzM m q S ++ lzI G (q 10) 120 tb)) (wr := ([] : va_W)) (w1 := (lzM m q u_3 ++ lzI G (q 10) 120 tb)) hP hD [0, 1] [] rfl rfl (by decide) (by decide) rfl hk1 hB
      replace hP := hP.sub (ws' := (lzM m q u_3 ++ lzI G (q 10) 120 tb)) [0, 1] rfl
      replace hD := hD.sub (ws' := (lzM m q u_3 ++ lzI G (q 10) 120 tb)) [0, 1] (by decide) rfl
      clear ht hvm hB hz1 hk1
      generalize H1 = H at hP hS ⊢
      obtain ⟨hn_1, he_1⟩ := hr_2
      have hR_1 := rpM_next hR c_13 hn_1 he_1
      have hE_1 := elN_M he_1
      exact rw_vret (S := Nat → Int32) (G := G) (Wd := fun u9 : Nat → Int32 => (lzM m q u9 ++ lzI G (q 10) 120 tb)) u_3 hx hb hr hlk dX4_must_20 hS (hP) (by first | exact ⟨by rw [mstZ_f]; assumption, by assumption⟩ | exact ⟨by assumption, by assumption⟩ | exact ⟨by rw [mstZ_n (fun q9 => c_13 ((rpM_z hR).mpr q9))]; exact hR, elM_r _⟩)
  · skip
    have c_1 := b2_z rfl c_1
    subst c_1
    refine lv_aload_n hx hb dX4_must_4 rfl (lv_at hl 0 rfl) ?_
    refine lv_iconst (v := 1) hx hb dX4_must_5 (by decide) ?_
    have hPc := hP.sub (ws' := lzM m q S) [0] rfl
    have hDc := hD.sub (ws' := lzM m q S) [0] (by decide) rfl
    have hFc : ∀ zz : Nat, lzA (lzM m q S) zz → A zz := lz_free hD [0] rfl
    refine va_callv (va_runV (As := [.int 1]) (rest := []) ⟨hx, hb, hml, hown, hts⟩ (c_X4_badR l G m q S tb L z 1 (hR) (hL1) (by decide)) (cwV 1 hts gX4_must_X4_bad rfl rfl rfl (by decide +kernel) ⟨Nat.le_of_ble_eq_true rfl, Nat.le_of_ble_eq_true rfl⟩) (rw_preV hK hPc hDc hP (ci := 4) (q0 := 0) rfl rfl) rfl rfl hl.1 rfl (lv_room (Nat.le_of_ble_eq_true rfl)) dX4_must_6 ⟨Nat.zero_le _, Nat.zero_le _⟩) hS (fun q _ h => hFc q h) hFc (fun u_6 t9 H1 locs ht hvm hr_5 hB hz1 hk1 hS => ?_)
    replace hB : va_P G.1 lzC _ t9.heap := hB
    rw [ht] at hB
    obtain ⟨hP, hD⟩ := lz_join (wc := lzM m q S) (wr := ([(q 10, .inl (G.2 0, 120, .inl tb))] : va_W)) (w1 := lzM m q u_6) hP hD [0] [1] rfl rfl (by decide) (by decide) rfl hk1 hB
    replace hP := hP.sub (ws' := (lzM m q u_6 ++ lzI G (q 10) 120 tb)) [1, 0] rfl
    replace hD := hD.sub (ws' := (lzM m q u_6 ++ lzI G (q 10) 120 tb)) [1, 0] (by decide) rfl
    clear ht hvm hB hz1 hk1
    generalize H1 = H at hP hS ⊢
    obtain ⟨hR_4, hE_4⟩ := hr_5
    refine lv_aload_n hx hb dX4_must_9 rfl (lv_at hl 0 rfl) ?_
    refine lz_get (G := G) (ci := 4) (v := .int (u_6 16)) (C := RX4) (T := TX4) (N := 24) hx hb hu_wsX40 (fun _ h9 => h9) hown hK hP 0 rfl rfl 16 (by decide) hw1 rfl rfl dX4_must_10 ?_
    refine lv_if_ne (tgt := 20) hx hb dX4_must_13 (by decide) (fun c_13 => ?_) (fun c_13 => ?_)
    · skip
      exact rw_vret (S := Nat → Int32) (G := G) (Wd := fun u9 : Nat → Int32 => (lzM m q u9 ++ lzI G (q 10) 120 tb)) u_6 hx hb hr hlk dX4_must_20 hS (hP) (by first | exact ⟨by rw [mstZ_f]; assumption, by assumption⟩ | exact ⟨by assumption, by assumption⟩ | exact ⟨by rw [mstZ_n (fun q9 => c_13 ((rpM_z hR).mpr q9))]; exact hR, elM_r _⟩)
    · skip
      exact (failI_0 (k := 1) (by decide) (hR_4.2.2.1.symm.trans c_13)).elim
set_option maxHeartbeats 4000000 in
set_option maxRecDepth 100000 in
theorem c_X4_numberR (l : Launch) (G : lzG) (m : Nat) (q : Nat → Nat) (S : Nat → Int32) (tb : Nat → Int32) (L : Nat) (z : Int32 × Nat) (lo hi : Int32) (hR : rpM S tb L z) (hL1 : L ≤ 120) : Met l yX4_number wsX4_number ({ frames := 3, cells := 0, slots := 0, locals := 68 }) (va_Pc [.ref m, .int lo, .int hi] (rwP G (lzM m q S ++ lzI G (q 10) 120 tb))) (va_Qi (S := Nat → Int32) (fun (r : Int32) u9 => rpM u9 tb L (numS tb L lo hi z) ∧ elM S u9 ∧ ((numS tb L lo hi z).1 = 0 → r = numV tb L z.2)) (rwB G (fun u9 : Nat → Int32 => (lzM m q u9 ++ lzI G (q 10) 120 tb))) (lzA (lzM m q S ++ lzI G (q 10) 120 tb))) 0 0 (lzA (lzM m q S ++ lzI G (q 10) 120 tb)) := by
  refine rw_start (S := Nat → Int32) (cc := cX4_number) (maxL := 4) (ret := (some .int)) (by decide) rfl (Nat.le_of_ble_eq_true rfl) ?_
  intro pp ee ss mm bl me cd A hx hb hr hlk hml hts hown hP hK hD hAe hS ls hl
  have hA0 : ∀ zz : Nat, lzA (lzM m q S ++ lzI G (q 10) 120 tb) zz → A zz := fun zz h9 => by rw [hAe]; exact h9
  rw [← hAe]
  clear hAe
  have hown : ss.vm.findClass RX4 = some mm.cls := hown
  have hw1 := hts (.fieldLink RX4 79 "LampSquaresModel" "fault" "I") (List.mem_of_getElem? (i := 1) rfl)
  have hw2 := hts (.fieldLink RX4 103 "LampSquaresModel" "token" "I") (List.mem_of_getElem? (i := 2) rfl)
  have hw3 := hts (.fieldLink RX4 92 "LampSquaresModel" "value" "I") (List.mem_of_getElem? (i := 3) rfl)
  have hu_wsX40 : ∀ w ∈ wsX40, w.before ([.ref m, .int lo, .int hi] : List Value).toArray ss = true := fun w h9 => hts w (List.mem_cons_of_mem _ (List.mem_append_right _ h9))
  have hl : lv_has ls 4 [(0, .ref m), (1, .int lo), (2, .int hi)] := hl
  refine lv_aload_n hx hb dX4_number_0 rfl (lv_at hl 0 rfl) ?_
  refine lz_get (G := G) (ci := 4) (v := .int (S 16)) (C := RX4) (T := TX4) (N := 24) hx hb hu_wsX40 (fun _ h9 => h9) hown hK hP 0 rfl rfl 16 (by decide) hw1 rfl rfl dX4_number_1 ?_
  refine lv_if_ne (tgt := 20) hx hb dX4_number_4 (by decide) (fun c_4 => ?_) (fun c_4 => ?_)
  · skip
    refine lv_aload_n hx hb dX4_number_20 rfl (lv_at hl 0 rfl) ?_
    refine lz_get (G := G) (ci := 4) (v := .int (S 16)) (C := RX4) (T := TX4) (N := 24) hx hb hu_wsX40 (fun _ h9 => h9) hown hK hP 0 rfl rfl 16 (by decide) hw1 rfl rfl dX4_number_21 ?_
    refine lv_if_ne (tgt := 47) hx hb dX4_number_24 (by decide) (fun c_24 => ?_) (fun c_24 => ?_)
    · skip
      refine lv_aload_n hx hb dX4_number_47 rfl (lv_at hl 0 rfl) ?_
      refine lz_get (G := G) (ci := 4) (v := .int (S 16)) (C := RX4) (T := TX4) (N := 24) hx hb hu_wsX40 (fun _ h9 => h9) hown hK hP 0 rfl rfl 16 (by decide) hw1 rfl rfl dX4_number_48 ?_
      refine lv_if_ne (tgt := 61) hx hb dX4_number_51 (by decide) (fun c_51 => ?_) (fun c_51 => ?_)
      · skip
        refine lv_iload_n hx hb dX4_number_61 rfl (lv_at hl 1 rfl) ?_
        refine lv_istore_n (lv' := [(3, .int lo), (0, .ref m), (1, .int lo), (2, .int hi)]) hx hb dX4_number_62 rfl hl (by decide) rfl (fun ls hl => ?_)
        refine lv_aload_n hx hb dX4_number_63 rfl (lv_at hl 1 rfl) ?_
        refine lv_iconst (v := 1) hx hb dX4_number_64 (by decide) ?_
        have hFc : ∀ zz : Nat, lzA (lzM m q S ++ lzI G (q 10) 120 tb) zz → A zz := lz_free hD [0, 1] rfl
        refine va_callv (va_runV (As := [.int 1]) (rest := []) ⟨hx, hb, hml, hown, hts⟩ (c_X4_mustR l G m q S tb L z true (hR) (hL1)) (cwV 1 hts gX4_number_X4_must rfl rfl rfl (by decide +kernel) ⟨Nat.le_of_ble_eq_true rfl, Nat.le_of_ble_eq_true rfl⟩) (rw_preV hK hP hD hP (ci := 4) (q0 := 0) rfl rfl) rfl rfl hl.1 rfl (lv_room (Nat.le_of_ble_eq_true rfl)) dX4_number_65 ⟨Nat.zero_le _, Nat.zero_le _⟩) hS (fun q _ h => hFc q h) hFc (fun u_3 t9 H1 locs ht hvm hr_2 hB hz1 hk1 hS => ?_)
        replace hB : va_P G.1 lzC _ t9.heap := hB
        rw [ht] at hB
        obtain ⟨hP, hD⟩ := lz_join (wc := (lzM m q S ++ lzI G (q 10) 120 tb)) (wr := ([] : va_W)) (w1 := (lzM m q u_3 ++ lzI G (q 10) 120 tb)) hP hD [0, 1] [] rfl rfl (by decide) (by decide) rfl hk1 hB
        replace hP := hP.sub (ws' := (lzM m q u_3 ++ lzI G (q 10) 120 tb)) [0, 1] rfl
        replace hD := hD.sub (ws' := (lzM m q u_3 ++ lzI G (q 10) 120 tb)) [0, 1] (by decide) rfl
        clear ht hvm hB hz1 hk1
        generalize H1 = H at hP hS ⊢
        obtain ⟨hR_1, hE_1⟩ := hr_2
        refine lv_iload_n hx hb dX4_number_68 rfl (lv_at hl 0 rfl) ?_
        exact rw_iret (S := Nat → Int32) (G := G) (Wd := fun u9 : Nat → Int32 => (lzM m q u9 ++ lzI G (q 10) 120 tb)) u_3 hx hb hr hlk dX4_number_69 hS (hP) (by first | exact num_end1 hR c_4 (by assumption) (by assumption) | exact num_end2 hz0 ht (by assumption) (by assumption) | exact num_end3 hz0 ht hi9 (by assumption) (by assumption) | exact num_end4 hz0 ht hi9 (hR.2.2.2.1 hz0).2.2.1 (by assumption) (by assumption))
      · skip
        exact absurd c_51 c_24
    · skip
      exact absurd c_24 c_4
  · skip
    have hz0 : z.1 = 0 := (rpM_z hR).mp c_4
    refine lv_aload_n hx hb dX4_number_7 rfl (lv_at hl 0 rfl) ?_
    refine lz_get (G := G) (ci := 4) (v := .int (S 14)) (C := RX4) (T := TX4) (N := 24) hx hb hu_wsX40 (fun _ h9 => h9) hown hK hP 0 rfl rfl 14 (by decide) hw2 rfl rfl dX4_number_8 ?_
    refine lv_iconst (v := 3) hx hb dX4_number_11 (by decide) ?_
    refine lv_icmp_eq (tgt := 20) hx hb dX4_number_12 (by decide) (fun c_12 => ?_) (fun c_12 => ?_)
    · skip
      have ht : tokT tb L z.2 = 3 := (hR.2.2.2.1 hz0).2.1.symm.trans c_12
      refine lv_aload_n hx hb dX4_number_20 rfl (lv_at hl 0 rfl) ?_
      refine lz_get (G := G) (ci := 4) (v := .int (S 16)) (C := RX4) (T := TX4) (N := 24) hx hb hu_wsX40 (fun _ h9 => h9) hown hK hP 0 rfl rfl 16 (by decide) hw1 rfl rfl dX4_number_21 ?_
      refine lv_if_ne (tgt := 47) hx hb dX4_number_24 (by decide) (fun c_24 => ?_) (fun c_24 => ?_)
      · skip
        exact absurd c_4 c_24
      · skip
        refine lv_aload_n hx hb dX4_number_27 rfl (lv_at hl 0 rfl) ?_
        refine lz_get (G := G) (ci := 4) (v := .int (S 15)) (C := RX4) (T := TX4) (N := 24) hx hb hu_wsX40 (fun _ h9 => h9) hown hK hP 0 rfl rfl 15 (by decide) hw3 rfl rfl dX4_number_28 ?_
        refine lv_i2l hx hb dX4_number_31 rfl ?_
        refine lv_iload_n hx hb dX4_number_32 rfl (lv_at hl 1 rfl) ?_
        refine lv_i2l hx hb dX4_number_33 rfl ?_
        refine lv_iload_n hx hb dX4_number_34 rfl (lv_at hl 2 rfl) ?_
        refine lv_i2l hx hb dX4_number_35 rfl ?_
        refine ro_calli (va_runS (As := [.long ((S 15).toInt64), .long lo.toInt64, .long hi.toInt64]) (rest := []) ⟨hx, hb, hml, hown, hts⟩ (c_X4_in l G ((S 15).toInt64) lo.toInt64 hi.toInt64 ) (cwS 3 hts gX4_number_X4_in rfl rfl rfl (by decide +kernel) ⟨Nat.le_of_ble_eq_true rfl, Nat.le_of_ble_eq_true rfl⟩) (ro_pre hK (fun k q h => by simp at h)) rfl rfl hl.1 rfl (lv_room (Nat.le_of_ble_eq_true rfl)) dX4_number_36 ⟨Nat.zero_le _, Nat.zero_le _⟩) (fun r_4 hr_4 => ?_)
        refine lv_if_ne (tgt := 47) hx hb dX4_number_39 (by decide) (fun c_39 => ?_) (fun c_39 => ?_)
        · skip
          have c_39 := b2_n hr_4 c_39
          have hi9 : inR (valT tb L z.2) lo hi = true := by rw [← (hR.2.2.2.1 hz0).2.2.1]; exact (inL_of _ _ _).symm.trans c_39
          refine lv_aload_n hx hb dX4_number_47 rfl (lv_at hl 0 rfl) ?_
          refine lz_get (G := G) (ci := 4) (v := .int (S 16)) (C := RX4) (T := TX4) (N := 24) hx hb hu_wsX40 (fun _ h9 => h9) hown hK hP 0 rfl rfl 16 (by decide) hw1 rfl rfl dX4_number_48 ?_
          refine lv_if_ne (tgt := 61) hx hb dX4_number_51 (by decide) (fun c_51 => ?_) (fun c_51 => ?_)
          · skip
            exact absurd c_24 c_51
          · skip
            refine lv_aload_n hx hb dX4_number_54 rfl (lv_at hl 0 rfl) ?_
            refine lz_get (G := G) (ci := 4) (v := .int (S 15)) (C := RX4) (T := TX4) (N := 24) hx hb hu_wsX40 (fun _ h9 => h9) hown hK hP 0 rfl rfl 15 (by decide) hw3 rfl rfl dX4_number_55 ?_
            refine lv_goto (tgt := 62) hx hb dX4_number_58 (by decide) ?_
            refine lv_istore_n (lv' := [(3, .int (S 15)), (0, .ref m), (1, .int lo), (2, .int hi)]) hx hb dX4_number_62 rfl hl (by decide) rfl (fun ls hl => ?_)
            refine lv_aload_n hx hb dX4_number_63 rfl (lv_at hl 1 rfl) ?_
            refine lv_iconst (v := 1) hx hb dX4_number_64 (by decide) ?_
            have hFc : ∀ zz : Nat, lzA (lzM m q S ++ lzI G (q 10) 120 tb) zz → A zz := lz_free hD [0, 1] rfl
            refine va_callv (va_runV (As := [.int 1]) (rest := []) ⟨hx, hb, hml, hown, hts⟩ (c_X4_mustR l G m q S tb L z true (hR) (hL1)) (cwV 1 hts gX4_number_X4_must rfl rfl rfl (by decide +kernel) ⟨Nat.le_of_ble_eq_true rfl, Nat.le_of_ble_eq_true rfl⟩) (rw_preV hK hP hD hP (ci := 4) (q0 := 0) rfl rfl) rfl rfl hl.1 rfl (lv_room (Nat.le_of_ble_eq_true rfl)) dX4_number_65 ⟨Nat.zero_le _, Nat.zero_le _⟩) hS (fun q _ h => hFc q h) hFc (fun u_7 t9 H1 locs ht hvm hr_6 hB hz1 hk1 hS => ?_)
            replace hB : va_P G.1 lzC _ t9.heap := hB
            rw [ht] at hB
            obtain ⟨hP, hD⟩ := lz_join (wc := (lzM m q S ++ lzI G (q 10) 120 tb)) (wr := ([] : va_W)) (w1 := (lzM m q u_7 ++ lzI G (q 10) 120 tb)) hP hD [0, 1] [] rfl rfl (by decide) (by decide) rfl hk1 hB
            replace hP := hP.sub (ws' := (lzM m q u_7 ++ lzI G (q 10) 120 tb)) [0, 1] rfl
            replace hD := hD.sub (ws' := (lzM m q u_7 ++ lzI G (q 10) 120 tb)) [0, 1] (by decide) rfl
            clear ht hvm hB hz1 hk1
            generalize H1 = H at hP hS ⊢
            obtain ⟨hR_5, hE_5⟩ := hr_6
            refine lv_iload_n hx hb dX4_number_68 rfl (lv_at hl 0 rfl) ?_
            exact rw_iret (S := Nat → Int32) (G := G) (Wd := fun u9 : Nat → Int32 => (lzM m q u9 ++ lzI G (q 10) 120 tb)) u_7 hx hb hr hlk dX4_number_69 hS (hP) (by first | exact num_end1 hR c_4 (by assumption) (by assumption) | exact num_end2 hz0 ht (by assumption) (by assumption) | exact num_end3 hz0 ht hi9 (by assumption) (by assumption) | exact num_end4 hz0 ht hi9 (hR.2.2.2.1 hz0).2.2.1 (by assumption) (by assumption))
        · skip
          have c_39 := b2_z hr_4 c_39
          have hi9 : inR (valT tb L z.2) lo hi = false := by rw [← (hR.2.2.2.1 hz0).2.2.1]; exact (inL_of _ _ _).symm.trans c_39
          refine lv_aload_n hx hb dX4_number_42 rfl (lv_at hl 0 rfl) ?_
          refine lv_iconst (v := 2) hx hb dX4_number_43 (by decide) ?_
          have hPc := hP.sub (ws' := lzM m q S) [0] rfl
          have hDc := hD.sub (ws' := lzM m q S) [0] (by decide) rfl
          have hFc : ∀ zz : Nat, lzA (lzM m q S) zz → A zz := lz_free hD [0] rfl
          refine va_callv (va_runV (As := [.int 2]) (rest := []) ⟨hx, hb, hml, hown, hts⟩ (c_X4_badR l G m q S tb L z 2 (hR) (hL1) (by decide)) (cwV 1 hts gX4_number_X4_bad rfl rfl rfl (by decide +kernel) ⟨Nat.le_of_ble_eq_true rfl, Nat.le_of_ble_eq_true rfl⟩) (rw_preV hK hPc hDc hP (ci := 4) (q0 := 0) rfl rfl) rfl rfl hl.1 rfl (lv_room (Nat.le_of_ble_eq_true rfl)) dX4_number_44 ⟨Nat.zero_le _, Nat.zero_le _⟩) hS (fun q _ h => hFc q h) hFc (fun u_10 t9 H1 locs ht hvm hr_9 hB hz1 hk1 hS => ?_)
          replace hB : va_P G.1 lzC _ t9.heap := hB
          rw [ht] at hB
          obtain ⟨hP, hD⟩ := lz_join (wc := lzM m q S) (wr := ([(q 10, .inl (G.2 0, 120, .inl tb))] : va_W)) (w1 := lzM m q u_10) hP hD [0] [1] rfl rfl (by decide) (by decide) rfl hk1 hB
          replace hP := hP.sub (ws' := (lzM m q u_10 ++ lzI G (q 10) 120 tb)) [1, 0] rfl
          replace hD := hD.sub (ws' := (lzM m q u_10 ++ lzI G (q 10) 120 tb)) [1, 0] (by decide) rfl
          clear ht hvm hB hz1 hk1
          generalize H1 = H at hP hS ⊢
          obtain ⟨hR_8, hE_8⟩ := hr_9
          refine lv_aload_n hx hb dX4_number_47 rfl (lv_at hl 0 rfl) ?_
          refine lz_get (G := G) (ci := 4) (v := .int (u_10 16)) (C := RX4) (T := TX4) (N := 24) hx hb hu_wsX40 (fun _ h9 => h9) hown hK hP 0 rfl rfl 16 (by decide) hw1 rfl rfl dX4_number_48 ?_
          refine lv_if_ne (tgt := 61) hx hb dX4_number_51 (by decide) (fun c_51 => ?_) (fun c_51 => ?_)
          · skip
            refine lv_iload_n hx hb dX4_number_61 rfl (lv_at hl 1 rfl) ?_
            refine lv_istore_n (lv' := [(3, .int lo), (0, .ref m), (1, .int lo), (2, .int hi)]) hx hb dX4_number_62 rfl hl (by decide) rfl (fun ls hl => ?_)
            refine lv_aload_n hx hb dX4_number_63 rfl (lv_at hl 1 rfl) ?_
            refine lv_iconst (v := 1) hx hb dX4_number_64 (by decide) ?_
            have hFc : ∀ zz : Nat, lzA (lzM m q u_10 ++ lzI G (q 10) 120 tb) zz → A zz := lz_free hD [0, 1] rfl
            refine va_callv (va_runV (As := [.int 1]) (rest := []) ⟨hx, hb, hml, hown, hts⟩ (c_X4_mustR l G m q u_10 tb L (failI z.1 2, z.2) true (hR_8) (hL1)) (cwV 1 hts gX4_number_X4_must rfl rfl rfl (by decide +kernel) ⟨Nat.le_of_ble_eq_true rfl, Nat.le_of_ble_eq_true rfl⟩) (rw_preV hK hP hD hP (ci := 4) (q0 := 0) rfl rfl) rfl rfl hl.1 rfl (lv_room (Nat.le_of_ble_eq_true rfl)) dX4_number_65 ⟨Nat.zero_le _, Nat.zero_le _⟩) hS (fun q _ h => hFc q h) hFc (fun u_13 t9 H1 locs ht hvm hr_12 hB hz1 hk1 hS => ?_)
            replace hB : va_P G.1 lzC _ t9.heap := hB
            rw [ht] at hB
            obtain ⟨hP, hD⟩ := lz_join (wc := (lzM m q u_10 ++ lzI G (q 10) 120 tb)) (wr := ([] : va_W)) (w1 := (lzM m q u_13 ++ lzI G (q 10) 120 tb)) hP hD [0, 1] [] rfl rfl (by decide) (by decide) rfl hk1 hB
            replace hP := hP.sub (ws' := (lzM m q u_13 ++ lzI G (q 10) 120 tb)) [0, 1] rfl
            replace hD := hD.sub (ws' := (lzM m q u_13 ++ lzI G (q 10) 120 tb)) [0, 1] (by decide) rfl
            clear ht hvm hB hz1 hk1
            generalize H1 = H at hP hS ⊢
            obtain ⟨hR_11, hE_11⟩ := hr_12
            have hE_11 := elM_t hE_8 hE_11
            refine lv_iload_n hx hb dX4_number_68 rfl (lv_at hl 0 rfl) ?_
            exact rw_iret (S := Nat → Int32) (G := G) (Wd := fun u9 : Nat → Int32 => (lzM m q u9 ++ lzI G (q 10) 120 tb)) u_13 hx hb hr hlk dX4_number_69 hS (hP) (by first | exact num_end1 hR c_4 (by assumption) (by assumption) | exact num_end2 hz0 ht (by assumption) (by assumption) | exact num_end3 hz0 ht hi9 (by assumption) (by assumption) | exact num_end4 hz0 ht hi9 (hR.2.2.2.1 hz0).2.2.1 (by assumption) (by assumption))
          · skip
            exact (failI_0 (k := 2) (by decide) (hR_8.2.2.1.symm.trans c_51)).elim
    · skip
      have ht : ¬ tokT tb L z.2 = 3 := fun q9 => c_12 ((hR.2.2.2.1 hz0).2.1.trans q9)
      refine lv_aload_n hx hb dX4_number_15 rfl (lv_at hl 0 rfl) ?_
      refine lv_iconst (v := 1) hx hb dX4_number_16 (by decide) ?_
      have hPc := hP.sub (ws' := lzM m q S) [0] rfl
      have hDc := hD.sub (ws' := lzM m q S) [0] (by decide) rfl
      have hFc : ∀ zz : Nat, lzA (lzM m q S) zz → A zz := lz_free hD [0] rfl
      refine va_callv (va_runV (As := [.int 1]) (rest := []) ⟨hx, hb, hml, hown, hts⟩ (c_X4_badR l G m q S tb L z 1 (hR) (hL1) (by decide)) (cwV 1 hts gX4_number_X4_bad rfl rfl rfl (by decide +kernel) ⟨Nat.le_of_ble_eq_true rfl, Nat.le_of_ble_eq_true rfl⟩) (rw_preV hK hPc hDc hP (ci := 4) (q0 := 0) rfl rfl) rfl rfl hl.1 rfl (lv_room (Nat.le_of_ble_eq_true rfl)) dX4_number_17 ⟨Nat.zero_le _, Nat.zero_le _⟩) hS (fun q _ h => hFc q h) hFc (fun u_16 t9 H1 locs ht hvm hr_15 hB hz1 hk1 hS => ?_)
      replace hB : va_P G.1 lzC _ t9.heap := hB
      rw [ht] at hB
      obtain ⟨hP, hD⟩ := lz_join (wc := lzM m q S) (wr := ([(q 10, .inl (G.2 0, 120, .inl tb))] : va_W)) (w1 := lzM m q u_16) hP hD [0] [1] rfl rfl (by decide) (by decide) rfl hk1 hB
      replace hP := hP.sub (ws' := (lzM m q u_16 ++ lzI G (q 10) 120 tb)) [1, 0] rfl
      replace hD := hD.sub (ws' := (lzM m q u_16 ++ lzI G (q 10) 120 tb)) [1, 0] (by decide) rfl
      clear ht hvm hB hz1 hk1
      generalize H1 = H at hP hS ⊢
      obtain ⟨hR_14, hE_14⟩ := hr_15
      refine lv_aload_n hx hb dX4_number_20 rfl (lv_at hl 0 rfl) ?_
      refine lz_get (G := G) (ci := 4) (v := .int (u_16 16)) (C := RX4) (T := TX4) (N := 24) hx hb hu_wsX40 (fun _ h9 => h9) hown hK hP 0 rfl rfl 16 (by decide) hw1 rfl rfl dX4_number_21 ?_
      refine lv_if_ne (tgt := 47) hx hb dX4_number_24 (by decide) (fun c_24 => ?_) (fun c_24 => ?_)
      · skip
        refine lv_aload_n hx hb dX4_number_47 rfl (lv_at hl 0 rfl) ?_
        refine lz_get (G := G) (ci := 4) (v := .int (u_16 16)) (C := RX4) (T := TX4) (N := 24) hx hb hu_wsX40 (fun _ h9 => h9) hown hK hP 0 rfl rfl 16 (by decide) hw1 rfl rfl dX4_number_48 ?_
        refine lv_if_ne (tgt := 61) hx hb dX4_number_51 (by decide) (fun c_51 => ?_) (fun c_51 => ?_)
        · skip
          refine lv_iload_n hx hb dX4_number_61 rfl (lv_at hl 1 rfl) ?_
          refine lv_istore_n (lv' := [(3, .int lo), (0, .ref m), (1, .int lo), (2, .int hi)]) hx hb dX4_number_62 rfl hl (by decide) rfl (fun ls hl => ?_)
          refine lv_aload_n hx hb dX4_number_63 rfl (lv_at hl 1 rfl) ?_
          refine lv_iconst (v := 1) hx hb dX4_number_64 (by decide) ?_
          have hFc : ∀ zz : Nat, lzA (lzM m q u_16 ++ lzI G (q 10) 120 tb) zz → A zz := lz_free hD [0, 1] rfl
          refine va_callv (va_runV (As := [.int 1]) (rest := []) ⟨hx, hb, hml, hown, hts⟩ (c_X4_mustR l G m q u_16 tb L (failI z.1 1, z.2) true (hR_14) (hL1)) (cwV 1 hts gX4_number_X4_must rfl rfl rfl (by decide +kernel) ⟨Nat.le_of_ble_eq_true rfl, Nat.le_of_ble_eq_true rfl⟩) (rw_preV hK hP hD hP (ci := 4) (q0 := 0) rfl rfl) rfl rfl hl.1 rfl (lv_room (Nat.le_of_ble_eq_true rfl)) dX4_number_65 ⟨Nat.zero_le _, Nat.zero_le _⟩) hS (fun q _ h => hFc q h) hFc (fun u_19 t9 H1 locs ht hvm hr_18 hB hz1 hk1 hS => ?_)
          replace hB : va_P G.1 lzC _ t9.heap := hB
          rw [ht] at hB
          obtain ⟨hP, hD⟩ := lz_join (wc := (lzM m q u_16 ++ lzI G (q 10) 120 tb)) (wr := ([] : va_W)) (w1 := (lzM m q u_19 ++ lzI G (q 10) 120 tb)) hP hD [0, 1] [] rfl rfl (by decide) (by decide) rfl hk1 hB
          replace hP := hP.sub (ws' := (lzM m q u_19 ++ lzI G (q 10) 120 tb)) [0, 1] rfl
          replace hD := hD.sub (ws' := (lzM m q u_19 ++ lzI G (q 10) 120 tb)) [0, 1] (by decide) rfl
          clear ht hvm hB hz1 hk1
          generalize H1 = H at hP hS ⊢
          obtain ⟨hR_17, hE_17⟩ := hr_18
          have hE_17 := elM_t hE_14 hE_17
          refine lv_iload_n hx hb dX4_number_68 rfl (lv_at hl 0 rfl) ?_
          exact rw_iret (S := Nat → Int32) (G := G) (Wd := fun u9 : Nat → Int32 => (lzM m q u9 ++ lzI G (q 10) 120 tb)) u_19 hx hb hr hlk dX4_number_69 hS (hP) (by first | exact num_end1 hR c_4 (by assumption) (by assumption) | exact num_end2 hz0 ht (by assumption) (by assumption) | exact num_end3 hz0 ht hi9 (by assumption) (by assumption) | exact num_end4 hz0 ht hi9 (hR.2.2.2.1 hz0).2.2.1 (by assumption) (by assumption))
        · skip
          exact absurd c_51 c_24
      · skip
        exact (failI_0 (k := 1) (by decide) (hR_14.2.2.1.symm.trans c_24)).elim
set_option maxHeartbeats 4000000 in
set_option maxRecDepth 100000 in
theorem c_X4_signR (l : Launch) (G : lzG) (m : Nat) (q : Nat → Nat) (S : Nat → Int32) (tb : Nat → Int32) (L : Nat) (z : Int32 × Nat) (c : Int32) (hR : rpM S tb L z) (hL1 : L ≤ 120) (hc : c = 44 ∨ c = 59) : Met l yX4_mustSign wsX4_mustSign ({ frames := 3, cells := 0, slots := 0, locals := 68 }) (va_Pc [.ref m, .int c] (rwP G (lzM m q S ++ lzI G (q 10) 120 tb))) (va_Qv (S := Nat → Int32) (fun u9 => rpM u9 tb L (sgnS tb L c z) ∧ elM S u9) (rwB G (fun u9 : Nat → Int32 => (lzM m q u9 ++ lzI G (q 10) 120 tb))) (lzA (lzM m q S ++ lzI G (q 10) 120 tb))) 0 0 (lzA (lzM m q S ++ lzI G (q 10) 120 tb)) := by
  refine rw_start (S := Nat → Int32) (cc := cX4_mustSign) (maxL := 2) (ret := none) (by decide) rfl (Nat.le_of_ble_eq_true rfl) ?_
  intro pp ee ss mm bl me cd A hx hb hr hlk hml hts hown hP hK hD hAe hS ls hl
  have hA0 : ∀ zz : Nat, lzA (lzM m q S ++ lzI G (q 10) 120 tb) zz → A zz := fun zz h9 => by rw [hAe]; exact h9
  rw [← hAe]
  clear hAe
  have hown : ss.vm.findClass RX4 = some mm.cls := hown
  have hw1 := hts (.fieldLink RX4 103 "LampSquaresModel" "token" "I") (List.mem_of_getElem? (i := 1) rfl)
  have hw2 := hts (.fieldLink RX4 92 "LampSquaresModel" "value" "I") (List.mem_of_getElem? (i := 2) rfl)
  have hu_wsX40 : ∀ w ∈ wsX40, w.before ([.ref m, .int c] : List Value).toArray ss = true := fun w h9 => hts w (List.mem_cons_of_mem _ (List.mem_append_right _ h9))
  have hl : lv_has ls 2 [(0, .ref m), (1, .int c)] := hl
  refine lv_aload_n hx hb dX4_mustSign_0 rfl (lv_at hl 0 rfl) ?_
  refine lv_aload_n hx hb dX4_mustSign_1 rfl (lv_at hl 0 rfl) ?_
  refine lz_get (G := G) (ci := 4) (v := .int (S 14)) (C := RX4) (T := TX4) (N := 24) hx hb hu_wsX40 (fun _ h9 => h9) hown hK hP 0 rfl rfl 14 (by decide) hw1 rfl rfl dX4_mustSign_2 ?_
  refine lv_iconst (v := 4) hx hb dX4_mustSign_5 (by decide) ?_
  refine lv_icmp_ne (tgt := 21) hx hb dX4_mustSign_6 (by decide) (fun c_6 => ?_) (fun c_6 => ?_)
  · skip
    refine lv_iconst (v := 0) hx hb dX4_mustSign_21 (by decide) ?_
    have hFc : ∀ zz : Nat, lzA (lzM m q S ++ lzI G (q 10) 120 tb) zz → A zz := lz_free hD [0, 1] rfl
    refine va_callv (va_runV (As := [.int 0]) (rest := []) ⟨hx, hb, hml, hown, hts⟩ (c_X4_mustR l G m q S tb L z false (hR) (hL1)) (cwV 1 hts gX4_mustSign_X4_must rfl rfl rfl (by decide +kernel) ⟨Nat.le_of_ble_eq_true rfl, Nat.le_of_ble_eq_true rfl⟩) (rw_preV hK hP hD hP (ci := 4) (q0 := 0) rfl rfl) rfl rfl hl.1 rfl (lv_room (Nat.le_of_ble_eq_true rfl)) dX4_mustSign_22 ⟨Nat.zero_le _, Nat.zero_le _⟩) hS (fun q _ h => hFc q h) hFc (fun u_3 t9 H1 locs ht hvm hr_2 hB hz1 hk1 hS => ?_)
    replace hB : va_P G.1 lzC _ t9.heap := hB
    rw [ht] at hB
    obtain ⟨hP, hD⟩ := lz_join (wc := (lzM m q S ++ lzI G (q 10) 120 tb)) (wr := ([] : va_W)) (w1 := (lzM m q u_3 ++ lzI G (q 10) 120 tb)) hP hD [0, 1] [] rfl rfl (by decide) (by decide) rfl hk1 hB
    replace hP := hP.sub (ws' := (lzM m q u_3 ++ lzI G (q 10) 120 tb)) [0, 1] rfl
    replace hD := hD.sub (ws' := (lzM m q u_3 ++ lzI G (q 10) 120 tb)) [0, 1] (by decide) rfl
    clear ht hvm hB hz1 hk1
    generalize H1 = H at hP hS ⊢
    obtain ⟨hR_1, hE_1⟩ := hr_2
    exact rw_vret (S := Nat → Int32) (G := G) (Wd := fun u9 : Nat → Int32 => (lzM m q u9 ++ lzI G (q 10) 120 tb)) u_3 hx hb hr hlk dX4_mustSign_25 hS (hP) (by first | exact ⟨(must_sgn hR hc c_6 c_14) ▸ (by assumption), by assumption⟩ | exact ⟨(must_sgf hR hc (fun q9 => c_14 q9.2)) ▸ (by assumption), by assumption⟩ | exact ⟨(must_sgf hR hc (fun q9 => c_6 q9.1)) ▸ (by assumption), by assumption⟩)
  · skip
    refine lv_aload_n hx hb dX4_mustSign_9 rfl (lv_at hl 0 rfl) ?_
    refine lz_get (G := G) (ci := 4) (v := .int (S 15)) (C := RX4) (T := TX4) (N := 24) hx hb hu_wsX40 (fun _ h9 => h9) hown hK hP 0 rfl rfl 15 (by decide) hw2 rfl rfl dX4_mustSign_10 ?_
    refine lv_iload_n hx hb dX4_mustSign_13 rfl (lv_at hl 1 rfl) ?_
    refine lv_icmp_ne (tgt := 21) hx hb dX4_mustSign_14 (by decide) (fun c_14 => ?_) (fun c_14 => ?_)
    · skip
      refine lv_iconst (v := 0) hx hb dX4_mustSign_21 (by decide) ?_
      have hFc : ∀ zz : Nat, lzA (lzM m q S ++ lzI G (q 10) 120 tb) zz → A zz := lz_free hD [0, 1] rfl
      refine va_callv (va_runV (As := [.int 0]) (rest := []) ⟨hx, hb, hml, hown, hts⟩ (c_X4_mustR l G m q S tb L z false (hR) (hL1)) (cwV 1 hts gX4_mustSign_X4_must rfl rfl rfl (by decide +kernel) ⟨Nat.le_of_ble_eq_true rfl, Nat.le_of_ble_eq_true rfl⟩) (rw_preV hK hP hD hP (ci := 4) (q0 := 0) rfl rfl) rfl rfl hl.1 rfl (lv_room (Nat.le_of_ble_eq_true rfl)) dX4_mustSign_22 ⟨Nat.zero_le _, Nat.zero_le _⟩) hS (fun q _ h => hFc q h) hFc (fun u_6 t9 H1 locs ht hvm hr_5 hB hz1 hk1 hS => ?_)
      replace hB : va_P G.1 lzC _ t9.heap := hB
      rw [ht] at hB
      obtain ⟨hP, hD⟩ := lz_join (wc := (lzM m q S ++ lzI G (q 10) 120 tb)) (wr := ([] : va_W)) (w1 := (lzM m q u_6 ++ lzI G (q 10) 120 tb)) hP hD [0, 1] [] rfl rfl (by decide) (by decide) rfl hk1 hB
      replace hP := hP.sub (ws' := (lzM m q u_6 ++ lzI G (q 10) 120 tb)) [0, 1] rfl
      replace hD := hD.sub (ws' := (lzM m q u_6 ++ lzI G (q 10) 120 tb)) [0, 1] (by decide) rfl
      clear ht hvm hB hz1 hk1
      generalize H1 = H at hP hS ⊢
      obtain ⟨hR_4, hE_4⟩ := hr_5
      exact rw_vret (S := Nat → Int32) (G := G) (Wd := fun u9 : Nat → Int32 => (lzM m q u9 ++ lzI G (q 10) 120 tb)) u_6 hx hb hr hlk dX4_mustSign_25 hS (hP) (by first | exact ⟨(must_sgn hR hc c_6 c_14) ▸ (by assumption), by assumption⟩ | exact ⟨(must_sgf hR hc (fun q9 => c_14 q9.2)) ▸ (by assumption), by assumption⟩ | exact ⟨(must_sgf hR hc (fun q9 => c_6 q9.1)) ▸ (by assumption), by assumption⟩)
    · skip
      refine lv_iconst (v := 1) hx hb dX4_mustSign_17 (by decide) ?_
      refine lv_goto (tgt := 22) hx hb dX4_mustSign_18 (by decide) ?_
      have hFc : ∀ zz : Nat, lzA (lzM m q S ++ lzI G (q 10) 120 tb) zz → A zz := lz_free hD [0, 1] rfl
      refine va_callv (va_runV (As := [.int 1]) (rest := []) ⟨hx, hb, hml, hown, hts⟩ (c_X4_mustR l G m q S tb L z true (hR) (hL1)) (cwV 1 hts gX4_mustSign_X4_must rfl rfl rfl (by decide +kernel) ⟨Nat.le_of_ble_eq_true rfl, Nat.le_of_ble_eq_true rfl⟩) (rw_preV hK hP hD hP (ci := 4) (q0 := 0) rfl rfl) rfl rfl hl.1 rfl (lv_room (Nat.le_of_ble_eq_true rfl)) dX4_mustSign_22 ⟨Nat.zero_le _, Nat.zero_le _⟩) hS (fun q _ h => hFc q h) hFc (fun u_9 t9 H1 locs ht hvm hr_8 hB hz1 hk1 hS => ?_)
      replace hB : va_P G.1 lzC _ t9.heap := hB
      rw [ht] at hB
      obtain ⟨hP, hD⟩ := lz_join (wc := (lzM m q S ++ lzI G (q 10) 120 tb)) (wr := ([] : va_W)) (w1 := (lzM m q u_9 ++ lzI G (q 10) 120 tb)) hP hD [0, 1] [] rfl rfl (by decide) (by decide) rfl hk1 hB
      replace hP := hP.sub (ws' := (lzM m q u_9 ++ lzI G (q 10) 120 tb)) [0, 1] rfl
      replace hD := hD.sub (ws' := (lzM m q u_9 ++ lzI G (q 10) 120 tb)) [0, 1] (by decide) rfl
      clear ht hvm hB hz1 hk1
      generalize H1 = H at hP hS ⊢
      obtain ⟨hR_7, hE_7⟩ := hr_8
      exact rw_vret (S := Nat → Int32) (G := G) (Wd := fun u9 : Nat → Int32 => (lzM m q u9 ++ lzI G (q 10) 120 tb)) u_9 hx hb hr hlk dX4_mustSign_25 hS (hP) (by first | exact ⟨(must_sgn hR hc c_6 c_14) ▸ (by assumption), by assumption⟩ | exact ⟨(must_sgf hR hc (fun q9 => c_14 q9.2)) ▸ (by assumption), by assumption⟩ | exact ⟨(must_sgf hR hc (fun q9 => c_6 q9.1)) ▸ (by assumption), by assumption⟩)
set_option maxHeartbeats 4000000 in
set_option maxRecDepth 100000 in
theorem c_X4_beginR (l : Launch) (G : lzG) (m : Nat) (q : Nat → Nat) (S : Nat → Int32) (tb : Nat → Int32) (L : Nat) (hL : S 11 = nI L) (hL1 : L ≤ 120) : Met l yX4_begin wsX4_begin ({ frames := 2, cells := 0, slots := 0, locals := 47 }) (va_Pc [.ref m] (rwP G (lzM m q S ++ lzI G (q 10) 120 tb))) (va_Qv (S := Nat → Int32) (fun u9 => rpM u9 tb L (0, 0) ∧ elM S u9) (rwB G (fun u9 : Nat → Int32 => (lzM m q u9 ++ lzI G (q 10) 120 tb))) (lzA (lzM m q S ++ lzI G (q 10) 120 tb))) 0 0 (lzA (lzM m q S ++ lzI G (q 10) 120 tb)) := by
  refine rw_start (S := Nat → Int32) (cc := cX4_begin) (maxL := 1) (ret := none) (by decide) rfl (Nat.le_of_ble_eq_true rfl) ?_
  intro pp ee ss mm bl me cd A hx hb hr hlk hml hts hown hP hK hD hAe hS ls hl
  have hA0 : ∀ zz : Nat, lzA (lzM m q S ++ lzI G (q 10) 120 tb) zz → A zz := fun zz h9 => by rw [hAe]; exact h9
  rw [← hAe]
  clear hAe
  have hown : ss.vm.findClass RX4 = some mm.cls := hown
  have hw1 := hts (.fieldLink RX4 88 "LampSquaresModel" "cursor" "I") (List.mem_of_getElem? (i := 1) rfl)
  have hw2 := hts (.fieldLink RX4 79 "LampSquaresModel" "fault" "I") (List.mem_of_getElem? (i := 2) rfl)
  have hu_wsX40 : ∀ w ∈ wsX40, w.before ([.ref m] : List Value).toArray ss = true := fun w h9 => hts w (List.mem_cons_of_mem _ (List.mem_append_right _ h9))
  have hl : lv_has ls 1 [(0, .ref m)] := hl
  refine lv_aload_n hx hb dX4_begin_0 rfl (lv_at hl 0 rfl) ?_
  refine lv_iconst (v := 0) hx hb dX4_begin_1 (by decide) ?_
  refine lz_put (G := G) (ci := 4) (C := RX4) (T := TX4) (N := 24) hx hb hu_wsX40 (fun _ h9 => h9) tyX4 tyX4_ok nmX4 hown hK hP hD hS 0 rfl rfl 12 (by decide) hw1 rfl rfl (by decide +kernel) (Nat.le_of_ble_eq_true rfl) dX4_begin_2 (lzM m q (upd S 12 0) ++ lzI G (q 10) 120 tb) rfl (fun H locs hP hD hS => ?_)
  refine lv_aload_n hx hb dX4_begin_5 rfl (lv_at hl 0 rfl) ?_
  refine lv_iconst (v := 0) hx hb dX4_begin_6 (by decide) ?_
  refine lz_put (G := G) (ci := 4) (C := RX4) (T := TX4) (N := 24) hx hb hu_wsX40 (fun _ h9 => h9) tyX4 tyX4_ok nmX4 hown hK hP hD hS 0 rfl rfl 16 (by decide) hw2 rfl rfl (by decide +kernel) (Nat.le_of_ble_eq_true rfl) dX4_begin_7 (lzM m q (upd (upd S 12 0) 16 0) ++ lzI G (q 10) 120 tb) rfl (fun H locs hP hD hS => ?_)
  refine lv_aload_n hx hb dX4_begin_10 rfl (lv_at hl 0 rfl) ?_
  have hFc : ∀ zz : Nat, lzA (lzM m q (upd (upd S 12 0) 16 0) ++ lzI G (q 10) 120 tb) zz → A zz := lz_free hD [0, 1] rfl
  refine va_callv (va_runV (As := []) (rest := []) ⟨hx, hb, hml, hown, hts⟩ (c_X4_next l G m q (upd (upd S 12 0) 16 0) tb L 0 (hL) (rfl) (hL1) (Nat.zero_le _)) (cwV 0 hts gX4_begin_X4_nextToken rfl rfl rfl (by decide +kernel) ⟨Nat.le_of_ble_eq_true rfl, Nat.le_of_ble_eq_true rfl⟩) (rw_preV hK hP hD hP (ci := 4) (q0 := 0) rfl rfl) rfl rfl hl.1 rfl (lv_room (Nat.le_of_ble_eq_true rfl)) dX4_begin_11 ⟨Nat.zero_le _, Nat.zero_le _⟩) hS (fun q _ h => hFc q h) hFc (fun u_2 t9 H1 locs ht hvm hr_1 hB hz1 hk1 hS => ?_)
  replace hB : va_P G.1 lzC _ t9.heap := hB
  rw [ht] at hB
  obtain ⟨hP, hD⟩ := lz_join (wc := (lzM m q (upd (upd S 12 0) 16 0) ++ lzI G (q 10) 120 tb)) (wr := ([] : va_W)) (w1 := (lzM m q u_2 ++ lzI G (q 10) 120 tb)) hP hD [0, 1] [] rfl rfl (by decide) (by decide) rfl hk1 hB
  replace hP := hP.sub (ws' := (lzM m q u_2 ++ lzI G (q 10) 120 tb)) [0, 1] rfl
  replace hD := hD.sub (ws' := (lzM m q u_2 ++ lzI G (q 10) 120 tb)) [0, 1] (by decide) rfl
  clear ht hvm hB hz1 hk1
  generalize H1 = H at hP hS ⊢
  obtain ⟨hn9, he9⟩ := hr_1
  exact rw_vret (S := Nat → Int32) (G := G) (Wd := fun u9 : Nat → Int32 => (lzM m q u9 ++ lzI G (q 10) 120 tb)) u_2 hx hb hr hlk dX4_begin_14 hS (hP) (⟨⟨(he9 11 (by decide)).trans hL, Nat.zero_le _, he9 16 (by decide), fun _ => hn9, fun q9 => absurd rfl q9⟩, elM_t (elM_t (elM_at (by decide)) (elM_at (by decide))) (elN_M he9)⟩)
set_option maxHeartbeats 4000000 in
set_option maxRecDepth 100000 in
theorem c_X4_readSquareR (l : Launch) (G : lzG) (m : Nat) (q : Nat → Nat) (S : Nat → Int32) (fr tb : Nat → Int32) (L : Nat) (z : Int32 × Nat) (N : Nat) (hR : rpM S tb L z) (hL1 : L ≤ 120) (hN : fr 2 = nI N) (hN8 : N ≤ 8) (hz0 : z.1 = 0) (hk0 : kokB tb L z.2 = true) : Met l yX4_readSquare wsX4_readSquare ({ frames := 4, cells := 0, slots := 0, locals := 91 }) (va_Pc [.ref m] (rwP G (lzM m q S ++ (lzI G (q 6) 64 fr ++ (lzI G (q 10) 120 tb))))) (va_Qv (S := Nat → Int32) (fun u9 => rpM u9 tb L (sqZ tb L N z) ∧ elM S u9) (rwB G (fun u9 : Nat → Int32 => (lzM m q u9 ++ (lzI G (q 6) 64 (sqF tb L N z fr) ++ (lzI G (q 10) 120 tb))))) (lzA (lzM m q S ++ (lzI G (q 6) 64 fr ++ (lzI G (q 10) 120 tb))))) 0 0 (lzA (lzM m q S ++ (lzI G (q 6) 64 fr ++ (lzI G (q 10) 120 tb)))) := by
  refine rw_start (S := Nat → Int32) (cc := cX4_readSquare) (maxL := 3) (ret := none) (by decide) rfl (Nat.le_of_ble_eq_true rfl) ?_
  intro pp ee ss mm bl me cd A hx hb hr hlk hml hts hown hP hK hD hAe hS ls hl
  have hA0 : ∀ zz : Nat, lzA (lzM m q S ++ (lzI G (q 6) 64 fr ++ (lzI G (q 10) 120 tb))) zz → A zz := fun zz h9 => by rw [hAe]; exact h9
  rw [← hAe]
  clear hAe
  have hown : ss.vm.findClass RX4 = some mm.cls := hown
  have hw1 := hts (.fieldLink RX4 92 "LampSquaresModel" "value" "I") (List.mem_of_getElem? (i := 1) rfl)
  have hw2 := hts (.fieldLink RX4 22 "LampSquaresModel" "fresh" "[I") (List.mem_of_getElem? (i := 2) rfl)
  have hw3 := hts (.fieldLink RX4 79 "LampSquaresModel" "fault" "I") (List.mem_of_getElem? (i := 3) rfl)
  have hu_wsX40 : ∀ w ∈ wsX40, w.before ([.ref m] : List Value).toArray ss = true := fun w h9 => hts w (List.mem_cons_of_mem _ (List.mem_append_right _ h9))
  have hl : lv_has ls 3 [(0, .ref m)] := hl
  refine lv_aload_n hx hb dX4_readSquare_0 rfl (lv_at hl 0 rfl) ?_
  refine lz_get (G := G) (ci := 4) (v := .int (S 15)) (C := RX4) (T := TX4) (N := 24) hx hb hu_wsX40 (fun _ h9 => h9) hown hK hP 0 rfl rfl 15 (by decide) hw1 rfl rfl dX4_readSquare_1 ?_
  refine ro_calli (va_runS (As := [.int (S 15)]) (rest := []) ⟨hx, hb, hml, hown, hts⟩ (c_X4_kindBy l G (S 15) ) (cwS 1 hts gX4_readSquare_X4_kindBy rfl rfl rfl (by decide +kernel) ⟨Nat.le_of_ble_eq_true rfl, Nat.le_of_ble_eq_true rfl⟩) (ro_pre hK (fun k q h => by simp at h)) rfl rfl hl.1 rfl (lv_room (Nat.le_of_ble_eq_true rfl)) dX4_readSquare_4 ⟨Nat.zero_le _, Nat.zero_le _⟩) (fun r_1 hr_1 => ?_)
  refine lz_top (y := kindB (S 15)) hr_1 ?_
  refine lz_top (y := kindB (byI tb L z.2)) (by rw [sq_val hR hz0 hk0]) ?_
  refine lv_istore_n (lv' := [(1, .int (kindB (byI tb L z.2))), (0, .ref m)]) hx hb dX4_readSquare_7 rfl hl (by decide) rfl (fun ls hl => ?_)
  refine lv_aload_n hx hb dX4_readSquare_8 rfl (lv_at hl 1 rfl) ?_
  refine lz_get (G := G) (ci := 4) (v := .ref (q 6)) (C := RX4) (T := TX4) (N := 24) hx hb hu_wsX40 (fun _ h9 => h9) hown hK hP 0 rfl rfl 6 (by decide) hw2 rfl rfl dX4_readSquare_9 ?_
  refine lv_iconst (v := 2) hx hb dX4_readSquare_12 (by decide) ?_
  refine lz_iald (f := fr) hx hb hK hP 1 rfl 2 (by omega) (Nat.le_of_ble_eq_true rfl) dX4_readSquare_13 ?_
  refine lv_bipush (v := 8) hx hb dX4_readSquare_14 (by decide) ?_
  refine lv_icmp_ne (tgt := 24) hx hb dX4_readSquare_16 (by decide) (fun c_16 => ?_) (fun c_16 => ?_)
  · skip
    have hk8 : N < 8 := Nat.lt_of_le_of_ne hN8 (fun h9 => c_16 (by rw [hN, h9]; rfl))
    refine lv_aload_n hx hb dX4_readSquare_24 rfl (lv_at hl 1 rfl) ?_
    refine lv_iconst (v := 1) hx hb dX4_readSquare_25 (by decide) ?_
    have hPc := hP.sub (ws' := (lzM m q S ++ lzI G (q 10) 120 tb)) [0, 2] rfl
    have hDc := hD.sub (ws' := (lzM m q S ++ lzI G (q 10) 120 tb)) [0, 2] (by decide) rfl
    have hFc : ∀ zz : Nat, lzA (lzM m q S ++ lzI G (q 10) 120 tb) zz → A zz := lz_free hD [0, 2] rfl
    refine va_callv (va_runV (As := [.int 1]) (rest := []) ⟨hx, hb, hml, hown, hts⟩ (c_X4_mustR l G m q S tb L z true (hR) (hL1)) (cwV 1 hts gX4_readSquare_X4_must rfl rfl rfl (by decide +kernel) ⟨Nat.le_of_ble_eq_true rfl, Nat.le_of_ble_eq_true rfl⟩) (rw_preV hK hPc hDc hP (ci := 4) (q0 := 0) rfl rfl) rfl rfl hl.1 rfl (lv_room (Nat.le_of_ble_eq_true rfl)) dX4_readSquare_26 ⟨Nat.zero_le _, Nat.zero_le _⟩) hS (fun q _ h => hFc q h) hFc (fun u_4 t9 H1 locs ht hvm hr_3 hB hz1 hk1 hS => ?_)
    replace hB : va_P G.1 lzC _ t9.heap := hB
    rw [ht] at hB
    obtain ⟨hP, hD⟩ := lz_join (wc := (lzM m q S ++ lzI G (q 10) 120 tb)) (wr := ([(q 6, .inl (G.2 0, 64, .inl fr))] : va_W)) (w1 := (lzM m q u_4 ++ lzI G (q 10) 120 tb)) hP hD [0, 2] [1] rfl rfl (by decide) (by decide) rfl hk1 hB
    replace hP := hP.sub (ws' := (lzM m q u_4 ++ (lzI G (q 6) 64 fr ++ (lzI G (q 10) 120 tb)))) [1, 0, 2] rfl
    replace hD := hD.sub (ws' := (lzM m q u_4 ++ (lzI G (q 6) 64 fr ++ (lzI G (q 10) 120 tb)))) [1, 0, 2] (by decide) rfl
    clear ht hvm hB hz1 hk1
    generalize H1 = H at hP hS ⊢
    obtain ⟨hR_2, hE_2⟩ := hr_3
    replace hR_2 : rpM u_4 tb L (sqA tb L N z) := by rw [← sqA_go hz0 hk0 hk8]; exact hR_2
    refine lv_aload_n hx hb dX4_readSquare_29 rfl (lv_at hl 1 rfl) ?_
    refine lv_iconst (v := 0) hx hb dX4_readSquare_30 (by decide) ?_
    refine lv_bipush (v := 9) hx hb dX4_readSquare_31 (by decide) ?_
    have hPc := hP.sub (ws' := (lzM m q u_4 ++ lzI G (q 10) 120 tb)) [0, 2] rfl
    have hDc := hD.sub (ws' := (lzM m q u_4 ++ lzI G (q 10) 120 tb)) [0, 2] (by decide) rfl
    have hFc : ∀ zz : Nat, lzA (lzM m q u_4 ++ lzI G (q 10) 120 tb) zz → A zz := lz_free hD [0, 2] rfl
    refine va_calli (va_runV (As := [.int 0, .int 9]) (rest := []) ⟨hx, hb, hml, hown, hts⟩ (c_X4_numberR l G m q u_4 tb L (sqA tb L N z) 0 9 (hR_2) (hL1)) (cwV 2 hts gX4_readSquare_X4_number rfl rfl rfl (by decide +kernel) ⟨Nat.le_of_ble_eq_true rfl, Nat.le_of_ble_eq_true rfl⟩) (rw_preV hK hPc hDc hP (ci := 4) (q0 := 0) rfl rfl) rfl rfl hl.1 rfl (lv_room (Nat.le_of_ble_eq_true rfl)) dX4_readSquare_33 ⟨Nat.zero_le _, Nat.zero_le _⟩) hS (fun q _ h => hFc q h) hFc (fun r_6 u_7 t9 H1 locs ht hvm hr_6 hB hz1 hk1 hS => ?_)
    replace hB : va_P G.1 lzC _ t9.heap := hB
    rw [ht] at hB
    obtain ⟨hP, hD⟩ := lz_join (wc := (lzM m q u_4 ++ lzI G (q 10) 120 tb)) (wr := ([(q 6, .inl (G.2 0, 64, .inl fr))] : va_W)) (w1 := (lzM m q u_7 ++ lzI G (q 10) 120 tb)) hP hD [0, 2] [1] rfl rfl (by decide) (by decide) rfl hk1 hB
    replace hP := hP.sub (ws' := (lzM m q u_7 ++ (lzI G (q 6) 64 fr ++ (lzI G (q 10) 120 tb)))) [1, 0, 2] rfl
    replace hD := hD.sub (ws' := (lzM m q u_7 ++ (lzI G (q 6) 64 fr ++ (lzI G (q 10) 120 tb)))) [1, 0, 2] (by decide) rfl
    clear ht hvm hB hz1 hk1
    generalize H1 = H at hP hS ⊢
    obtain ⟨hR_5, hE_5, hV_5⟩ := hr_6
    have hE_5 := elM_t hE_2 hE_5
    refine lv_istore_n (lv' := [(2, .int r_6), (1, .int (kindB (byI tb L z.2))), (0, .ref m)]) hx hb dX4_readSquare_36 rfl hl (by decide) rfl (fun ls hl => ?_)
    refine lv_aload_n hx hb dX4_readSquare_37 rfl (lv_at hl 2 rfl) ?_
    refine lv_bipush (v := 59) hx hb dX4_readSquare_38 (by decide) ?_
    have hPc := hP.sub (ws' := (lzM m q u_7 ++ lzI G (q 10) 120 tb)) [0, 2] rfl
    have hDc := hD.sub (ws' := (lzM m q u_7 ++ lzI G (q 10) 120 tb)) [0, 2] (by decide) rfl
    have hFc : ∀ zz : Nat, lzA (lzM m q u_7 ++ lzI G (q 10) 120 tb) zz → A zz := lz_free hD [0, 2] rfl
    refine va_callv (va_runV (As := [.int 59]) (rest := []) ⟨hx, hb, hml, hown, hts⟩ (c_X4_signR l G m q u_7 tb L (numS tb L 0 9 (sqA tb L N z)) 59 (hR_5) (hL1) (by decide)) (cwV 1 hts gX4_readSquare_X4_mustSign rfl rfl rfl (by decide +kernel) ⟨Nat.le_of_ble_eq_true rfl, Nat.le_of_ble_eq_true rfl⟩) (rw_preV hK hPc hDc hP (ci := 4) (q0 := 0) rfl rfl) rfl rfl hl.1 rfl (lv_room (Nat.le_of_ble_eq_true rfl)) dX4_readSquare_40 ⟨Nat.zero_le _, Nat.zero_le _⟩) hS (fun q _ h => hFc q h) hFc (fun u_10 t9 H1 locs ht hvm hr_9 hB hz1 hk1 hS => ?_)
    replace hB : va_P G.1 lzC _ t9.heap := hB
    rw [ht] at hB
    obtain ⟨hP, hD⟩ := lz_join (wc := (lzM m q u_7 ++ lzI G (q 10) 120 tb)) (wr := ([(q 6, .inl (G.2 0, 64, .inl fr))] : va_W)) (w1 := (lzM m q u_10 ++ lzI G (q 10) 120 tb)) hP hD [0, 2] [1] rfl rfl (by decide) (by decide) rfl hk1 hB
    replace hP := hP.sub (ws' := (lzM m q u_10 ++ (lzI G (q 6) 64 fr ++ (lzI G (q 10) 120 tb)))) [1, 0, 2] rfl
    replace hD := hD.sub (ws' := (lzM m q u_10 ++ (lzI G (q 6) 64 fr ++ (lzI G (q 10) 120 tb)))) [1, 0, 2] (by decide) rfl
    clear ht hvm hB hz1 hk1
    generalize H1 = H at hP hS ⊢
    obtain ⟨hR_8, hE_8⟩ := hr_9
    have hE_8 := elM_t hE_5 hE_8
    refine lv_aload_n hx hb dX4_readSquare_43 rfl (lv_at hl 2 rfl) ?_
    refine lz_get (G := G) (ci := 4) (v := .int (u_10 16)) (C := RX4) (T := TX4) (N := 24) hx hb hu_wsX40 (fun _ h9 => h9) hown hK hP 0 rfl rfl 16 (by decide) hw3 rfl rfl dX4_readSquare_44 ?_
    refine lv_if_ne (tgt := 94) hx hb dX4_readSquare_47 (by decide) (fun c_47 => ?_) (fun c_47 => ?_)
    · skip
      have h0 : ¬ (sqZ tb L N z).1 = 0 := fun q9 => c_47 ((rpM_z hR_8).mpr q9)
      exact rw_vret (S := Nat → Int32) (G := G) (Wd := fun u9 : Nat → Int32 => (lzM m q u9 ++ (lzI G (q 6) 64 (sqF tb L N z fr) ++ (lzI G (q 10) 120 tb)))) u_10 hx hb hr hlk dX4_readSquare_94 hS (by show va_P G.1 lzC (lzM m q _ ++ (lzI G (q 6) 64 (sqF tb L N z fr) ++ lzI G (q 10) 120 tb)) _; unfold sqF; first | (rw [if_pos h0, ← hr9]; exact hP) | (rw [if_neg h0]; exact hP)) (⟨by assumption, by assumption⟩)
    · skip
      have h0 : (sqZ tb L N z).1 = 0 := (rpM_z hR_8).mp c_47
      have hr9 := hV_5 (sgnS_0 h0)
      refine lv_aload_n hx hb dX4_readSquare_50 rfl (lv_at hl 2 rfl) ?_
      refine lz_get (G := G) (ci := 4) (v := .ref (q 6)) (C := RX4) (T := TX4) (N := 24) hx hb hu_wsX40 (fun _ h9 => h9) hown hK hP 0 rfl rfl 6 (by decide) hw2 rfl rfl dX4_readSquare_51 ?_
      refine lv_iconst (v := 4) hx hb dX4_readSquare_54 (by decide) ?_
      refine lv_iconst (v := 5) hx hb dX4_readSquare_55 (by decide) ?_
      refine lv_aload_n hx hb dX4_readSquare_56 rfl (lv_at hl 2 rfl) ?_
      refine lz_get (G := G) (ci := 4) (v := .ref (q 6)) (C := RX4) (T := TX4) (N := 24) hx hb hu_wsX40 (fun _ h9 => h9) hown hK hP 0 rfl rfl 6 (by decide) hw2 rfl rfl dX4_readSquare_57 ?_
      refine lv_iconst (v := 2) hx hb dX4_readSquare_60 (by decide) ?_
      refine lz_iald (f := fr) hx hb hK hP 1 rfl 2 (by omega) (Nat.le_of_ble_eq_true rfl) dX4_readSquare_61 ?_
      refine lv_imul hx hb dX4_readSquare_62 ?_
      refine lv_iadd hx hb dX4_readSquare_63 ?_
      refine lz_top (y := nI (4 + 5 * N)) (by rw [hN]; simp only [fa_lit, pk_mul, nI_add]) ?_
      refine lv_iload_n hx hb dX4_readSquare_64 rfl (lv_at hl 1 rfl) ?_
      refine lz_iast (f := fr) hx hb hK hP hD hS 1 rfl (4 + 5 * N) (by omega) (Nat.le_of_ble_eq_true rfl) dX4_readSquare_65 (lzM m q u_10 ++ (lzI G (q 6) 64 (upd fr (4 + 5 * N) (kindB (byI tb L z.2))) ++ (lzI G (q 10) 120 tb))) rfl (fun H locs hP hD hS => ?_)
      refine lv_aload_n hx hb dX4_readSquare_66 rfl (lv_at hl 2 rfl) ?_
      refine lz_get (G := G) (ci := 4) (v := .ref (q 6)) (C := RX4) (T := TX4) (N := 24) hx hb hu_wsX40 (fun _ h9 => h9) hown hK hP 0 rfl rfl 6 (by decide) hw2 rfl rfl dX4_readSquare_67 ?_
      refine lv_iconst (v := 4) hx hb dX4_readSquare_70 (by decide) ?_
      refine lv_iconst (v := 5) hx hb dX4_readSquare_71 (by decide) ?_
      refine lv_aload_n hx hb dX4_readSquare_72 rfl (lv_at hl 2 rfl) ?_
      refine lz_get (G := G) (ci := 4) (v := .ref (q 6)) (C := RX4) (T := TX4) (N := 24) hx hb hu_wsX40 (fun _ h9 => h9) hown hK hP 0 rfl rfl 6 (by decide) hw2 rfl rfl dX4_readSquare_73 ?_
      refine lv_iconst (v := 2) hx hb dX4_readSquare_76 (by decide) ?_
      refine lz_iald (f := upd fr (4 + 5 * N) (kindB (byI tb L z.2))) hx hb hK hP 1 rfl 2 (by omega) (Nat.le_of_ble_eq_true rfl) dX4_readSquare_77 ?_
      refine lv_imul hx hb dX4_readSquare_78 ?_
      refine lv_iadd hx hb dX4_readSquare_79 ?_
      refine lv_iconst (v := 1) hx hb dX4_readSquare_80 (by decide) ?_
      refine lv_iadd hx hb dX4_readSquare_81 ?_
      refine lz_top (y := nI (4 + 5 * N + 1)) (by rw [upd_ne (show 2 ≠ 4 + 5 * N by omega)]; rw [hN]; simp only [fa_lit, pk_mul, nI_add]) ?_
      refine lv_iload_n hx hb dX4_readSquare_82 rfl (lv_at hl 0 rfl) ?_
      refine lz_iast (f := upd fr (4 + 5 * N) (kindB (byI tb L z.2))) hx hb hK hP hD hS 1 rfl (4 + 5 * N + 1) (by omega) (Nat.le_of_ble_eq_true rfl) dX4_readSquare_83 (lzM m q u_10 ++ (lzI G (q 6) 64 (upd (upd fr (4 + 5 * N) (kindB (byI tb L z.2))) (4 + 5 * N + 1) r_6) ++ (lzI G (q 10) 120 tb))) rfl (fun H locs hP hD hS => ?_)
      refine lv_aload_n hx hb dX4_readSquare_84 rfl (lv_at hl 2 rfl) ?_
      refine lz_get (G := G) (ci := 4) (v := .ref (q 6)) (C := RX4) (T := TX4) (N := 24) hx hb hu_wsX40 (fun _ h9 => h9) hown hK hP 0 rfl rfl 6 (by decide) hw2 rfl rfl dX4_readSquare_85 ?_
      refine lv_iconst (v := 2) hx hb dX4_readSquare_88 (by decide) ?_
      refine lv_dup2_11 hx hb dX4_readSquare_89 rfl rfl ?_
      refine lz_iald (f := upd (upd fr (4 + 5 * N) (kindB (byI tb L z.2))) (4 + 5 * N + 1) r_6) hx hb hK hP 1 rfl 2 (by omega) (Nat.le_of_ble_eq_true rfl) dX4_readSquare_90 ?_
      refine lv_iconst (v := 1) hx hb dX4_readSquare_91 (by decide) ?_
      refine lv_iadd hx hb dX4_readSquare_92 ?_
      refine lz_top (y := nI (N + 1)) (by rw [upd_ne (show 2 ≠ 4 + 5 * N + 1 by omega), upd_ne (show 2 ≠ 4 + 5 * N by omega), hN]; exact nI_1 N) ?_
      refine lz_iast (f := upd (upd fr (4 + 5 * N) (kindB (byI tb L z.2))) (4 + 5 * N + 1) r_6) hx hb hK hP hD hS 1 rfl 2 (by omega) (Nat.le_of_ble_eq_true rfl) dX4_readSquare_93 (lzM m q u_10 ++ (lzI G (q 6) 64 (upd (upd (upd fr (4 + 5 * N) (kindB (byI tb L z.2))) (4 + 5 * N + 1) r_6) 2 (nI (N + 1))) ++ (lzI G (q 10) 120 tb))) rfl (fun H locs hP hD hS => ?_)
      exact rw_vret (S := Nat → Int32) (G := G) (Wd := fun u9 : Nat → Int32 => (lzM m q u9 ++ (lzI G (q 6) 64 (sqF tb L N z fr) ++ (lzI G (q 10) 120 tb)))) u_10 hx hb hr hlk dX4_readSquare_94 hS (by show va_P G.1 lzC (lzM m q _ ++ (lzI G (q 6) 64 (sqF tb L N z fr) ++ lzI G (q 10) 120 tb)) _; unfold sqF; first | (rw [if_pos h0, ← hr9]; exact hP) | (rw [if_neg h0]; exact hP)) (⟨by assumption, by assumption⟩)
  · skip
    have hk8 : ¬ N < 8 := fun h9 => absurd ((nI_eq (b := 8) (by omega) (by omega)).mp (hN.symm.trans c_16)) (by omega)
    refine lv_aload_n hx hb dX4_readSquare_19 rfl (lv_at hl 1 rfl) ?_
    refine lv_iconst (v := 3) hx hb dX4_readSquare_20 (by decide) ?_
    have hPc := hP.sub (ws' := lzM m q S) [0] rfl
    have hDc := hD.sub (ws' := lzM m q S) [0] (by decide) rfl
    have hFc : ∀ zz : Nat, lzA (lzM m q S) zz → A zz := lz_free hD [0] rfl
    refine va_callv (va_runV (As := [.int 3]) (rest := []) ⟨hx, hb, hml, hown, hts⟩ (c_X4_badR l G m q S tb L z 3 (hR) (hL1) (by decide)) (cwV 1 hts gX4_readSquare_X4_bad rfl rfl rfl (by decide +kernel) ⟨Nat.le_of_ble_eq_true rfl, Nat.le_of_ble_eq_true rfl⟩) (rw_preV hK hPc hDc hP (ci := 4) (q0 := 0) rfl rfl) rfl rfl hl.1 rfl (lv_room (Nat.le_of_ble_eq_true rfl)) dX4_readSquare_21 ⟨Nat.zero_le _, Nat.zero_le _⟩) hS (fun q _ h => hFc q h) hFc (fun u_13 t9 H1 locs ht hvm hr_12 hB hz1 hk1 hS => ?_)
    replace hB : va_P G.1 lzC _ t9.heap := hB
    rw [ht] at hB
    obtain ⟨hP, hD⟩ := lz_join (wc := lzM m q S) (wr := ([(q 6, .inl (G.2 0, 64, .inl fr)), (q 10, .inl (G.2 0, 120, .inl tb))] : va_W)) (w1 := lzM m q u_13) hP hD [0] [1, 2] rfl rfl (by decide) (by decide) rfl hk1 hB
    replace hP := hP.sub (ws' := (lzM m q u_13 ++ (lzI G (q 6) 64 fr ++ (lzI G (q 10) 120 tb)))) [2, 0, 1] rfl
    replace hD := hD.sub (ws' := (lzM m q u_13 ++ (lzI G (q 6) 64 fr ++ (lzI G (q 10) 120 tb)))) [2, 0, 1] (by decide) rfl
    clear ht hvm hB hz1 hk1
    generalize H1 = H at hP hS ⊢
    obtain ⟨hR_11, hE_11⟩ := hr_12
    refine lv_aload_n hx hb dX4_readSquare_24 rfl (lv_at hl 1 rfl) ?_
    refine lv_iconst (v := 1) hx hb dX4_readSquare_25 (by decide) ?_
    have hPc := hP.sub (ws' := (lzM m q u_13 ++ lzI G (q 10) 120 tb)) [0, 2] rfl
    have hDc := hD.sub (ws' := (lzM m q u_13 ++ lzI G (q 10) 120 tb)) [0, 2] (by decide) rfl
    have hFc : ∀ zz : Nat, lzA (lzM m q u_13 ++ lzI G (q 10) 120 tb) zz → A zz := lz_free hD [0, 2] rfl
    refine va_callv (va_runV (As := [.int 1]) (rest := []) ⟨hx, hb, hml, hown, hts⟩ (c_X4_mustR l G m q u_13 tb L (failI z.1 3, z.2) true (hR_11) (hL1)) (cwV 1 hts gX4_readSquare_X4_must rfl rfl rfl (by decide +kernel) ⟨Nat.le_of_ble_eq_true rfl, Nat.le_of_ble_eq_true rfl⟩) (rw_preV hK hPc hDc hP (ci := 4) (q0 := 0) rfl rfl) rfl rfl hl.1 rfl (lv_room (Nat.le_of_ble_eq_true rfl)) dX4_readSquare_26 ⟨Nat.zero_le _, Nat.zero_le _⟩) hS (fun q _ h => hFc q h) hFc (fun u_16 t9 H1 locs ht hvm hr_15 hB hz1 hk1 hS => ?_)
    replace hB : va_P G.1 lzC _ t9.heap := hB
    rw [ht] at hB
    obtain ⟨hP, hD⟩ := lz_join (wc := (lzM m q u_13 ++ lzI G (q 10) 120 tb)) (wr := ([(q 6, .inl (G.2 0, 64, .inl fr))] : va_W)) (w1 := (lzM m q u_16 ++ lzI G (q 10) 120 tb)) hP hD [0, 2] [1] rfl rfl (by decide) (by decide) rfl hk1 hB
    replace hP := hP.sub (ws' := (lzM m q u_16 ++ (lzI G (q 6) 64 fr ++ (lzI G (q 10) 120 tb)))) [1, 0, 2] rfl
    replace hD := hD.sub (ws' := (lzM m q u_16 ++ (lzI G (q 6) 64 fr ++ (lzI G (q 10) 120 tb)))) [1, 0, 2] (by decide) rfl
    clear ht hvm hB hz1 hk1
    generalize H1 = H at hP hS ⊢
    obtain ⟨hR_14, hE_14⟩ := hr_15
    have hE_14 := elM_t hE_11 hE_14
    replace hR_14 : rpM u_16 tb L (sqA tb L N z) := by rw [← sqA_full hk0 hk8]; exact hR_14
    refine lv_aload_n hx hb dX4_readSquare_29 rfl (lv_at hl 1 rfl) ?_
    refine lv_iconst (v := 0) hx hb dX4_readSquare_30 (by decide) ?_
    refine lv_bipush (v := 9) hx hb dX4_readSquare_31 (by decide) ?_
    have hPc := hP.sub (ws' := (lzM m q u_16 ++ lzI G (q 10) 120 tb)) [0, 2] rfl
    have hDc := hD.sub (ws' := (lzM m q u_16 ++ lzI G (q 10) 120 tb)) [0, 2] (by decide) rfl
    have hFc : ∀ zz : Nat, lzA (lzM m q u_16 ++ lzI G (q 10) 120 tb) zz → A zz := lz_free hD [0, 2] rfl
    refine va_calli (va_runV (As := [.int 0, .int 9]) (rest := []) ⟨hx, hb, hml, hown, hts⟩ (c_X4_numberR l G m q u_16 tb L (sqA tb L N z) 0 9 (hR_14) (hL1)) (cwV 2 hts gX4_readSquare_X4_number rfl rfl rfl (by decide +kernel) ⟨Nat.le_of_ble_eq_true rfl, Nat.le_of_ble_eq_true rfl⟩) (rw_preV hK hPc hDc hP (ci := 4) (q0 := 0) rfl rfl) rfl rfl hl.1 rfl (lv_room (Nat.le_of_ble_eq_true rfl)) dX4_readSquare_33 ⟨Nat.zero_le _, Nat.zero_le _⟩) hS (fun q _ h => hFc q h) hFc (fun r_18 u_19 t9 H1 locs ht hvm hr_18 hB hz1 hk1 hS => ?_)
    replace hB : va_P G.1 lzC _ t9.heap := hB
    rw [ht] at hB
    obtain ⟨hP, hD⟩ := lz_join (wc := (lzM m q u_16 ++ lzI G (q 10) 120 tb)) (wr := ([(q 6, .inl (G.2 0, 64, .inl fr))] : va_W)) (w1 := (lzM m q u_19 ++ lzI G (q 10) 120 tb)) hP hD [0, 2] [1] rfl rfl (by decide) (by decide) rfl hk1 hB
    replace hP := hP.sub (ws' := (lzM m q u_19 ++ (lzI G (q 6) 64 fr ++ (lzI G (q 10) 120 tb)))) [1, 0, 2] rfl
    replace hD := hD.sub (ws' := (lzM m q u_19 ++ (lzI G (q 6) 64 fr ++ (lzI G (q 10) 120 tb)))) [1, 0, 2] (by decide) rfl
    clear ht hvm hB hz1 hk1
    generalize H1 = H at hP hS ⊢
    obtain ⟨hR_17, hE_17, hV_17⟩ := hr_18
    have hE_17 := elM_t hE_14 hE_17
    refine lv_istore_n (lv' := [(2, .int r_18), (1, .int (kindB (byI tb L z.2))), (0, .ref m)]) hx hb dX4_readSquare_36 rfl hl (by decide) rfl (fun ls hl => ?_)
    refine lv_aload_n hx hb dX4_readSquare_37 rfl (lv_at hl 2 rfl) ?_
    refine lv_bipush (v := 59) hx hb dX4_readSquare_38 (by decide) ?_
    have hPc := hP.sub (ws' := (lzM m q u_19 ++ lzI G (q 10) 120 tb)) [0, 2] rfl
    have hDc := hD.sub (ws' := (lzM m q u_19 ++ lzI G (q 10) 120 tb)) [0, 2] (by decide) rfl
    have hFc : ∀ zz : Nat, lzA (lzM m q u_19 ++ lzI G (q 10) 120 tb) zz → A zz := lz_free hD [0, 2] rfl
    refine va_callv (va_runV (As := [.int 59]) (rest := []) ⟨hx, hb, hml, hown, hts⟩ (c_X4_signR l G m q u_19 tb L (numS tb L 0 9 (sqA tb L N z)) 59 (hR_17) (hL1) (by decide)) (cwV 1 hts gX4_readSquare_X4_mustSign rfl rfl rfl (by decide +kernel) ⟨Nat.le_of_ble_eq_true rfl, Nat.le_of_ble_eq_true rfl⟩) (rw_preV hK hPc hDc hP (ci := 4) (q0 := 0) rfl rfl) rfl rfl hl.1 rfl (lv_room (Nat.le_of_ble_eq_true rfl)) dX4_readSquare_40 ⟨Nat.zero_le _, Nat.zero_le _⟩) hS (fun q _ h => hFc q h) hFc (fun u_22 t9 H1 locs ht hvm hr_21 hB hz1 hk1 hS => ?_)
    replace hB : va_P G.1 lzC _ t9.heap := hB
    rw [ht] at hB
    obtain ⟨hP, hD⟩ := lz_join (wc := (lzM m q u_19 ++ lzI G (q 10) 120 tb)) (wr := ([(q 6, .inl (G.2 0, 64, .inl fr))] : va_W)) (w1 := (lzM m q u_22 ++ lzI G (q 10) 120 tb)) hP hD [0, 2] [1] rfl rfl (by decide) (by decide) rfl hk1 hB
    replace hP := hP.sub (ws' := (lzM m q u_22 ++ (lzI G (q 6) 64 fr ++ (lzI G (q 10) 120 tb)))) [1, 0, 2] rfl
    replace hD := hD.sub (ws' := (lzM m q u_22 ++ (lzI G (q 6) 64 fr ++ (lzI G (q 10) 120 tb)))) [1, 0, 2] (by decide) rfl
    clear ht hvm hB hz1 hk1
    generalize H1 = H at hP hS ⊢
    obtain ⟨hR_20, hE_20⟩ := hr_21
    have hE_20 := elM_t hE_17 hE_20
    refine lv_aload_n hx hb dX4_readSquare_43 rfl (lv_at hl 2 rfl) ?_
    refine lz_get (G := G) (ci := 4) (v := .int (u_22 16)) (C := RX4) (T := TX4) (N := 24) hx hb hu_wsX40 (fun _ h9 => h9) hown hK hP 0 rfl rfl 16 (by decide) hw3 rfl rfl dX4_readSquare_44 ?_
    refine lv_if_ne (tgt := 94) hx hb dX4_readSquare_47 (by decide) (fun c_47 => ?_) (fun c_47 => ?_)
    · skip
      have h0 : ¬ (sqZ tb L N z).1 = 0 := fun q9 => c_47 ((rpM_z hR_20).mpr q9)
      exact rw_vret (S := Nat → Int32) (G := G) (Wd := fun u9 : Nat → Int32 => (lzM m q u9 ++ (lzI G (q 6) 64 (sqF tb L N z fr) ++ (lzI G (q 10) 120 tb)))) u_22 hx hb hr hlk dX4_readSquare_94 hS (by show va_P G.1 lzC (lzM m q _ ++ (lzI G (q 6) 64 (sqF tb L N z fr) ++ lzI G (q 10) 120 tb)) _; unfold sqF; first | (rw [if_pos h0, ← hr9]; exact hP) | (rw [if_neg h0]; exact hP)) (⟨by assumption, by assumption⟩)
    · skip
      exact absurd (sqA_0 (numS_0 (sgnS_0 ((rpM_z hR_20).mp c_47)))).2.2 hk8
set_option maxHeartbeats 4000000 in
set_option maxRecDepth 100000 in
theorem c_X4_readVisitorR (l : Launch) (G : lzG) (m : Nat) (q : Nat → Nat) (S : Nat → Int32) (fr tb : Nat → Int32) (L : Nat) (z : Int32 × Nat) (M : Nat) (hR : rpM S tb L z) (hL1 : L ≤ 120) (hM : fr 3 = nI M) (hM5 : M ≤ 5) (hz0 : z.1 = 0) (hv0 : byI tb L z.2 = 118) : Met l yX4_readVisitor wsX4_readVisitor ({ frames := 4, cells := 0, slots := 0, locals := 91 }) (va_Pc [.ref m] (rwP G (lzM m q S ++ (lzI G (q 6) 64 fr ++ (lzI G (q 10) 120 tb))))) (va_Qv (S := Nat → Int32) (fun u9 => rpM u9 tb L (visZ tb L M z) ∧ elM S u9) (rwB G (fun u9 : Nat → Int32 => (lzM m q u9 ++ (lzI G (q 6) 64 (vsF tb L M z fr) ++ (lzI G (q 10) 120 tb))))) (lzA (lzM m q S ++ (lzI G (q 6) 64 fr ++ (lzI G (q 10) 120 tb))))) 0 0 (lzA (lzM m q S ++ (lzI G (q 6) 64 fr ++ (lzI G (q 10) 120 tb)))) := by
  refine rw_start (S := Nat → Int32) (cc := cX4_readVisitor) (maxL := 3) (ret := none) (by decide) rfl (Nat.le_of_ble_eq_true rfl) ?_
  intro pp ee ss mm bl me cd A hx hb hr hlk hml hts hown hP hK hD hAe hS ls hl
  have hA0 : ∀ zz : Nat, lzA (lzM m q S ++ (lzI G (q 6) 64 fr ++ (lzI G (q 10) 120 tb))) zz → A zz := fun zz h9 => by rw [hAe]; exact h9
  rw [← hAe]
  clear hAe
  have hown : ss.vm.findClass RX4 = some mm.cls := hown
  have hw1 := hts (.fieldLink RX4 22 "LampSquaresModel" "fresh" "[I") (List.mem_of_getElem? (i := 1) rfl)
  have hw2 := hts (.fieldLink RX4 79 "LampSquaresModel" "fault" "I") (List.mem_of_getElem? (i := 2) rfl)
  have hu_wsX40 : ∀ w ∈ wsX40, w.before ([.ref m] : List Value).toArray ss = true := fun w h9 => hts w (List.mem_cons_of_mem _ (List.mem_append_right _ h9))
  have hl : lv_has ls 3 [(0, .ref m)] := hl
  refine lv_aload_n hx hb dX4_readVisitor_0 rfl (lv_at hl 0 rfl) ?_
  refine lz_get (G := G) (ci := 4) (v := .ref (q 6)) (C := RX4) (T := TX4) (N := 24) hx hb hu_wsX40 (fun _ h9 => h9) hown hK hP 0 rfl rfl 6 (by decide) hw1 rfl rfl dX4_readVisitor_1 ?_
  refine lv_iconst (v := 3) hx hb dX4_readVisitor_4 (by decide) ?_
  refine lz_iald (f := fr) hx hb hK hP 1 rfl 3 (by omega) (Nat.le_of_ble_eq_true rfl) dX4_readVisitor_5 ?_
  refine lv_iconst (v := 5) hx hb dX4_readVisitor_6 (by decide) ?_
  refine lv_icmp_ne (tgt := 15) hx hb dX4_readVisitor_7 (by decide) (fun c_7 => ?_) (fun c_7 => ?_)
  · skip
    have hk5 : M < 5 := Nat.lt_of_le_of_ne hM5 (fun h9 => c_7 (by rw [hM, h9]; rfl))
    refine lv_aload_n hx hb dX4_readVisitor_15 rfl (lv_at hl 0 rfl) ?_
    refine lv_aload_n hx hb dX4_readVisitor_16 rfl (lv_at hl 0 rfl) ?_
    refine lv_bipush (v := 118) hx hb dX4_readVisitor_17 (by decide) ?_
    have hPc := hP.sub (ws' := lzM m q S) [0] rfl
    refine ro_calli (va_runV (As := [.int 118]) (rest := [.ref m]) ⟨hx, hb, hml, hown, hts⟩ (c_X4_isLetter l G m q S 118 ) (cwV 1 hts gX4_readVisitor_X4_isLetter rfl rfl rfl (by decide +kernel) ⟨Nat.le_of_ble_eq_true rfl, Nat.le_of_ble_eq_true rfl⟩) (ro_preV hK hPc hP (ci := 4) (q0 := 0) rfl rfl) rfl rfl hl.1 rfl (lv_room (Nat.le_of_ble_eq_true rfl)) dX4_readVisitor_19 ⟨Nat.zero_le _, Nat.zero_le _⟩) (fun r_1 hr_1 => ?_)
    refine lz_top (y := b2 true) (by rw [hr_1, isLet_z hR (by decide +kernel) (by decide +kernel)]; simp [hz0, hv0, failI]) ?_
    have hPc := hP.sub (ws' := (lzM m q S ++ lzI G (q 10) 120 tb)) [0, 2] rfl
    have hDc := hD.sub (ws' := (lzM m q S ++ lzI G (q 10) 120 tb)) [0, 2] (by decide) rfl
    have hFc : ∀ zz : Nat, lzA (lzM m q S ++ lzI G (q 10) 120 tb) zz → A zz := lz_free hD [0, 2] rfl
    refine va_callv (va_runV (As := [.int (b2 true)]) (rest := []) ⟨hx, hb, hml, hown, hts⟩ (c_X4_mustR l G m q S tb L z true (hR) (hL1)) (cwV 1 hts gX4_readVisitor_X4_must rfl rfl rfl (by decide +kernel) ⟨Nat.le_of_ble_eq_true rfl, Nat.le_of_ble_eq_true rfl⟩) (rw_preV hK hPc hDc hP (ci := 4) (q0 := 0) rfl rfl) rfl rfl hl.1 rfl (lv_room (Nat.le_of_ble_eq_true rfl)) dX4_readVisitor_22 ⟨Nat.zero_le _, Nat.zero_le _⟩) hS (fun q _ h => hFc q h) hFc (fun u_4 t9 H1 locs ht hvm hr_3 hB hz1 hk1 hS => ?_)
    replace hB : va_P G.1 lzC _ t9.heap := hB
    rw [ht] at hB
    obtain ⟨hP, hD⟩ := lz_join (wc := (lzM m q S ++ lzI G (q 10) 120 tb)) (wr := ([(q 6, .inl (G.2 0, 64, .inl fr))] : va_W)) (w1 := (lzM m q u_4 ++ lzI G (q 10) 120 tb)) hP hD [0, 2] [1] rfl rfl (by decide) (by decide) rfl hk1 hB
    replace hP := hP.sub (ws' := (lzM m q u_4 ++ (lzI G (q 6) 64 fr ++ (lzI G (q 10) 120 tb)))) [1, 0, 2] rfl
    replace hD := hD.sub (ws' := (lzM m q u_4 ++ (lzI G (q 6) 64 fr ++ (lzI G (q 10) 120 tb)))) [1, 0, 2] (by decide) rfl
    clear ht hvm hB hz1 hk1
    generalize H1 = H at hP hS ⊢
    obtain ⟨hR_2, hE_2⟩ := hr_3
    replace hR_2 : rpM u_4 tb L (visA tb L M z) := by rw [← visA_go hz0 hv0 hk5]; exact hR_2
    refine lv_aload_n hx hb dX4_readVisitor_25 rfl (lv_at hl 0 rfl) ?_
    refine lv_iconst (v := 0) hx hb dX4_readVisitor_26 (by decide) ?_
    refine lv_bipush (v := 9) hx hb dX4_readVisitor_27 (by decide) ?_
    have hPc := hP.sub (ws' := (lzM m q u_4 ++ lzI G (q 10) 120 tb)) [0, 2] rfl
    have hDc := hD.sub (ws' := (lzM m q u_4 ++ lzI G (q 10) 120 tb)) [0, 2] (by decide) rfl
    have hFc : ∀ zz : Nat, lzA (lzM m q u_4 ++ lzI G (q 10) 120 tb) zz → A zz := lz_free hD [0, 2] rfl
    refine va_calli (va_runV (As := [.int 0, .int 9]) (rest := []) ⟨hx, hb, hml, hown, hts⟩ (c_X4_numberR l G m q u_4 tb L (visA tb L M z) 0 9 (hR_2) (hL1)) (cwV 2 hts gX4_readVisitor_X4_number rfl rfl rfl (by decide +kernel) ⟨Nat.le_of_ble_eq_true rfl, Nat.le_of_ble_eq_true rfl⟩) (rw_preV hK hPc hDc hP (ci := 4) (q0 := 0) rfl rfl) rfl rfl hl.1 rfl (lv_room (Nat.le_of_ble_eq_true rfl)) dX4_readVisitor_29 ⟨Nat.zero_le _, Nat.zero_le _⟩) hS (fun q _ h => hFc q h) hFc (fun r_6 u_7 t9 H1 locs ht hvm hr_6 hB hz1 hk1 hS => ?_)
    replace hB : va_P G.1 lzC _ t9.heap := hB
    rw [ht] at hB
    obtain ⟨hP, hD⟩ := lz_join (wc := (lzM m q u_4 ++ lzI G (q 10) 120 tb)) (wr := ([(q 6, .inl (G.2 0, 64, .inl fr))] : va_W)) (w1 := (lzM m q u_7 ++ lzI G (q 10) 120 tb)) hP hD [0, 2] [1] rfl rfl (by decide) (by decide) rfl hk1 hB
    replace hP := hP.sub (ws' := (lzM m q u_7 ++ (lzI G (q 6) 64 fr ++ (lzI G (q 10) 120 tb)))) [1, 0, 2] rfl
    replace hD := hD.sub (ws' := (lzM m q u_7 ++ (lzI G (q 6) 64 fr ++ (lzI G (q 10) 120 tb)))) [1, 0, 2] (by decide) rfl
    clear ht hvm hB hz1 hk1
    generalize H1 = H at hP hS ⊢
    obtain ⟨hR_5, hE_5, hV_5⟩ := hr_6
    have hE_5 := elM_t hE_2 hE_5
    refine lv_istore_n (lv' := [(1, .int r_6), (0, .ref m)]) hx hb dX4_readVisitor_32 rfl hl (by decide) rfl (fun ls hl => ?_)
    refine lv_aload_n hx hb dX4_readVisitor_33 rfl (lv_at hl 1 rfl) ?_
    refine lv_bipush (v := 44) hx hb dX4_readVisitor_34 (by decide) ?_
    have hPc := hP.sub (ws' := (lzM m q u_7 ++ lzI G (q 10) 120 tb)) [0, 2] rfl
    have hDc := hD.sub (ws' := (lzM m q u_7 ++ lzI G (q 10) 120 tb)) [0, 2] (by decide) rfl
    have hFc : ∀ zz : Nat, lzA (lzM m q u_7 ++ lzI G (q 10) 120 tb) zz → A zz := lz_free hD [0, 2] rfl
    refine va_callv (va_runV (As := [.int 44]) (rest := []) ⟨hx, hb, hml, hown, hts⟩ (c_X4_signR l G m q u_7 tb L (numS tb L 0 9 (visA tb L M z)) 44 (hR_5) (hL1) (by decide)) (cwV 1 hts gX4_readVisitor_X4_mustSign rfl rfl rfl (by decide +kernel) ⟨Nat.le_of_ble_eq_true rfl, Nat.le_of_ble_eq_true rfl⟩) (rw_preV hK hPc hDc hP (ci := 4) (q0 := 0) rfl rfl) rfl rfl hl.1 rfl (lv_room (Nat.le_of_ble_eq_true rfl)) dX4_readVisitor_36 ⟨Nat.zero_le _, Nat.zero_le _⟩) hS (fun q _ h => hFc q h) hFc (fun u_10 t9 H1 locs ht hvm hr_9 hB hz1 hk1 hS => ?_)
    replace hB : va_P G.1 lzC _ t9.heap := hB
    rw [ht] at hB
    obtain ⟨hP, hD⟩ := lz_join (wc := (lzM m q u_7 ++ lzI G (q 10) 120 tb)) (wr := ([(q 6, .inl (G.2 0, 64, .inl fr))] : va_W)) (w1 := (lzM m q u_10 ++ lzI G (q 10) 120 tb)) hP hD [0, 2] [1] rfl rfl (by decide) (by decide) rfl hk1 hB
    replace hP := hP.sub (ws' := (lzM m q u_10 ++ (lzI G (q 6) 64 fr ++ (lzI G (q 10) 120 tb)))) [1, 0, 2] rfl
    replace hD := hD.sub (ws' := (lzM m q u_10 ++ (lzI G (q 6) 64 fr ++ (lzI G (q 10) 120 tb)))) [1, 0, 2] (by decide) rfl
    clear ht hvm hB hz1 hk1
    generalize H1 = H at hP hS ⊢
    obtain ⟨hR_8, hE_8⟩ := hr_9
    have hE_8 := elM_t hE_5 hE_8
    refine lv_aload_n hx hb dX4_readVisitor_39 rfl (lv_at hl 1 rfl) ?_
    refine lv_iconst (v := 0) hx hb dX4_readVisitor_40 (by decide) ?_
    refine lv_bipush (v := 9) hx hb dX4_readVisitor_41 (by decide) ?_
    have hPc := hP.sub (ws' := (lzM m q u_10 ++ lzI G (q 10) 120 tb)) [0, 2] rfl
    have hDc := hD.sub (ws' := (lzM m q u_10 ++ lzI G (q 10) 120 tb)) [0, 2] (by decide) rfl
    have hFc : ∀ zz : Nat, lzA (lzM m q u_10 ++ lzI G (q 10) 120 tb) zz → A zz := lz_free hD [0, 2] rfl
    refine va_calli (va_runV (As := [.int 0, .int 9]) (rest := []) ⟨hx, hb, hml, hown, hts⟩ (c_X4_numberR l G m q u_10 tb L (sgnS tb L 44 (numS tb L 0 9 (visA tb L M z))) 0 9 (hR_8) (hL1)) (cwV 2 hts gX4_readVisitor_X4_number rfl rfl rfl (by decide +kernel) ⟨Nat.le_of_ble_eq_true rfl, Nat.le_of_ble_eq_true rfl⟩) (rw_preV hK hPc hDc hP (ci := 4) (q0 := 0) rfl rfl) rfl rfl hl.1 rfl (lv_room (Nat.le_of_ble_eq_true rfl)) dX4_readVisitor_43 ⟨Nat.zero_le _, Nat.zero_le _⟩) hS (fun q _ h => hFc q h) hFc (fun r_12 u_13 t9 H1 locs ht hvm hr_12 hB hz1 hk1 hS => ?_)
    replace hB : va_P G.1 lzC _ t9.heap := hB
    rw [ht] at hB
    obtain ⟨hP, hD⟩ := lz_join (wc := (lzM m q u_10 ++ lzI G (q 10) 120 tb)) (wr := ([(q 6, .inl (G.2 0, 64, .inl fr))] : va_W)) (w1 := (lzM m q u_13 ++ lzI G (q 10) 120 tb)) hP hD [0, 2] [1] rfl rfl (by decide) (by decide) rfl hk1 hB
    replace hP := hP.sub (ws' := (lzM m q u_13 ++ (lzI G (q 6) 64 fr ++ (lzI G (q 10) 120 tb)))) [1, 0, 2] rfl
    replace hD := hD.sub (ws' := (lzM m q u_13 ++ (lzI G (q 6) 64 fr ++ (lzI G (q 10) 120 tb)))) [1, 0, 2] (by decide) rfl
    clear ht hvm hB hz1 hk1
    generalize H1 = H at hP hS ⊢
    obtain ⟨hR_11, hE_11, hV_11⟩ := hr_12
    have hE_11 := elM_t hE_8 hE_11
    refine lv_istore_n (lv' := [(2, .int r_12), (1, .int r_6), (0, .ref m)]) hx hb dX4_readVisitor_46 rfl hl (by decide) rfl (fun ls hl => ?_)
    refine lv_aload_n hx hb dX4_readVisitor_47 rfl (lv_at hl 2 rfl) ?_
    refine lv_bipush (v := 59) hx hb dX4_readVisitor_48 (by decide) ?_
    have hPc := hP.sub (ws' := (lzM m q u_13 ++ lzI G (q 10) 120 tb)) [0, 2] rfl
    have hDc := hD.sub (ws' := (lzM m q u_13 ++ lzI G (q 10) 120 tb)) [0, 2] (by decide) rfl
    have hFc : ∀ zz : Nat, lzA (lzM m q u_13 ++ lzI G (q 10) 120 tb) zz → A zz := lz_free hD [0, 2] rfl
    refine va_callv (va_runV (As := [.int 59]) (rest := []) ⟨hx, hb, hml, hown, hts⟩ (c_X4_signR l G m q u_13 tb L (numS tb L 0 9 (sgnS tb L 44 (numS tb L 0 9 (visA tb L M z)))) 59 (hR_11) (hL1) (by decide)) (cwV 1 hts gX4_readVisitor_X4_mustSign rfl rfl rfl (by decide +kernel) ⟨Nat.le_of_ble_eq_true rfl, Nat.le_of_ble_eq_true rfl⟩) (rw_preV hK hPc hDc hP (ci := 4) (q0 := 0) rfl rfl) rfl rfl hl.1 rfl (lv_room (Nat.le_of_ble_eq_true rfl)) dX4_readVisitor_50 ⟨Nat.zero_le _, Nat.zero_le _⟩) hS (fun q _ h => hFc q h) hFc (fun u_16 t9 H1 locs ht hvm hr_15 hB hz1 hk1 hS => ?_)
    replace hB : va_P G.1 lzC _ t9.heap := hB
    rw [ht] at hB
    obtain ⟨hP, hD⟩ := lz_join (wc := (lzM m q u_13 ++ lzI G (q 10) 120 tb)) (wr := ([(q 6, .inl (G.2 0, 64, .inl fr))] : va_W)) (w1 := (lzM m q u_16 ++ lzI G (q 10) 120 tb)) hP hD [0, 2] [1] rfl rfl (by decide) (by decide) rfl hk1 hB
    replace hP := hP.sub (ws' := (lzM m q u_16 ++ (lzI G (q 6) 64 fr ++ (lzI G (q 10) 120 tb)))) [1, 0, 2] rfl
    replace hD := hD.sub (ws' := (lzM m q u_16 ++ (lzI G (q 6) 64 fr ++ (lzI G (q 10) 120 tb)))) [1, 0, 2] (by decide) rfl
    clear ht hvm hB hz1 hk1
    generalize H1 = H at hP hS ⊢
    obtain ⟨hR_14, hE_14⟩ := hr_15
    have hE_14 := elM_t hE_11 hE_14
    refine lv_aload_n hx hb dX4_readVisitor_53 rfl (lv_at hl 2 rfl) ?_
    refine lz_get (G := G) (ci := 4) (v := .int (u_16 16)) (C := RX4) (T := TX4) (N := 24) hx hb hu_wsX40 (fun _ h9 => h9) hown hK hP 0 rfl rfl 16 (by decide) hw2 rfl rfl dX4_readVisitor_54 ?_
    refine lv_if_ne (tgt := 106) hx hb dX4_readVisitor_57 (by decide) (fun c_57 => ?_) (fun c_57 => ?_)
    · skip
      have h0 : ¬ (visZ tb L M z).1 = 0 := fun q9 => c_57 ((rpM_z hR_14).mpr q9)
      exact rw_vret (S := Nat → Int32) (G := G) (Wd := fun u9 : Nat → Int32 => (lzM m q u9 ++ (lzI G (q 6) 64 (vsF tb L M z fr) ++ (lzI G (q 10) 120 tb)))) u_16 hx hb hr hlk dX4_readVisitor_106 hS (by show va_P G.1 lzC (lzM m q _ ++ (lzI G (q 6) 64 (vsF tb L M z fr) ++ lzI G (q 10) 120 tb)) _; unfold vsF; first | (rw [if_pos h0, ← hr9, ← hr8]; exact hP) | (rw [if_neg h0]; exact hP)) (⟨by assumption, by assumption⟩)
    · skip
      have h0 : (visZ tb L M z).1 = 0 := (rpM_z hR_14).mp c_57
      have hr9 := hV_5 (sgnS_0 (numS_0 (sgnS_0 h0)))
      have hr8 := (show _ = numV tb L (visB tb L M z).2 from hV_11 (sgnS_0 h0))
      refine lv_aload_n hx hb dX4_readVisitor_60 rfl (lv_at hl 2 rfl) ?_
      refine lz_get (G := G) (ci := 4) (v := .ref (q 6)) (C := RX4) (T := TX4) (N := 24) hx hb hu_wsX40 (fun _ h9 => h9) hown hK hP 0 rfl rfl 6 (by decide) hw1 rfl rfl dX4_readVisitor_61 ?_
      refine lv_bipush (v := 44) hx hb dX4_readVisitor_64 (by decide) ?_
      refine lv_iconst (v := 4) hx hb dX4_readVisitor_66 (by decide) ?_
      refine lv_aload_n hx hb dX4_readVisitor_67 rfl (lv_at hl 2 rfl) ?_
      refine lz_get (G := G) (ci := 4) (v := .ref (q 6)) (C := RX4) (T := TX4) (N := 24) hx hb hu_wsX40 (fun _ h9 => h9) hown hK hP 0 rfl rfl 6 (by decide) hw1 rfl rfl dX4_readVisitor_68 ?_
      refine lv_iconst (v := 3) hx hb dX4_readVisitor_71 (by decide) ?_
      refine lz_iald (f := fr) hx hb hK hP 1 rfl 3 (by omega) (Nat.le_of_ble_eq_true rfl) dX4_readVisitor_72 ?_
      refine lv_imul hx hb dX4_readVisitor_73 ?_
      refine lv_iadd hx hb dX4_readVisitor_74 ?_
      refine lz_top (y := nI (44 + 4 * M)) (by rw [hM]; simp only [fa_lit, pk_mul, nI_add]) ?_
      refine lv_iload_n hx hb dX4_readVisitor_75 rfl (lv_at hl 1 rfl) ?_
      refine lz_iast (f := fr) hx hb hK hP hD hS 1 rfl (44 + 4 * M) (by omega) (Nat.le_of_ble_eq_true rfl) dX4_readVisitor_76 (lzM m q u_16 ++ (lzI G (q 6) 64 (upd fr (44 + 4 * M) r_6) ++ (lzI G (q 10) 120 tb))) rfl (fun H locs hP hD hS => ?_)
      refine lv_aload_n hx hb dX4_readVisitor_77 rfl (lv_at hl 2 rfl) ?_
      refine lz_get (G := G) (ci := 4) (v := .ref (q 6)) (C := RX4) (T := TX4) (N := 24) hx hb hu_wsX40 (fun _ h9 => h9) hown hK hP 0 rfl rfl 6 (by decide) hw1 rfl rfl dX4_readVisitor_78 ?_
      refine lv_bipush (v := 44) hx hb dX4_readVisitor_81 (by decide) ?_
      refine lv_iconst (v := 4) hx hb dX4_readVisitor_83 (by decide) ?_
      refine lv_aload_n hx hb dX4_readVisitor_84 rfl (lv_at hl 2 rfl) ?_
      refine lz_get (G := G) (ci := 4) (v := .ref (q 6)) (C := RX4) (T := TX4) (N := 24) hx hb hu_wsX40 (fun _ h9 => h9) hown hK hP 0 rfl rfl 6 (by decide) hw1 rfl rfl dX4_readVisitor_85 ?_
      refine lv_iconst (v := 3) hx hb dX4_readVisitor_88 (by decide) ?_
      refine lz_iald (f := upd fr (44 + 4 * M) r_6) hx hb hK hP 1 rfl 3 (by omega) (Nat.le_of_ble_eq_true rfl) dX4_readVisitor_89 ?_
      refine lv_imul hx hb dX4_readVisitor_90 ?_
      refine lv_iadd hx hb dX4_readVisitor_91 ?_
      refine lv_iconst (v := 1) hx hb dX4_readVisitor_92 (by decide) ?_
      refine lv_iadd hx hb dX4_readVisitor_93 ?_
      refine lz_top (y := nI (44 + 4 * M + 1)) (by rw [upd_ne (show 3 ≠ 44 + 4 * M by omega)]; rw [hM]; simp only [fa_lit, pk_mul, nI_add]) ?_
      refine lv_iload_n hx hb dX4_readVisitor_94 rfl (lv_at hl 0 rfl) ?_
      refine lz_iast (f := upd fr (44 + 4 * M) r_6) hx hb hK hP hD hS 1 rfl (44 + 4 * M + 1) (by omega) (Nat.le_of_ble_eq_true rfl) dX4_readVisitor_95 (lzM m q u_16 ++ (lzI G (q 6) 64 (upd (upd fr (44 + 4 * M) r_6) (44 + 4 * M + 1) r_12) ++ (lzI G (q 10) 120 tb))) rfl (fun H locs hP hD hS => ?_)
      refine lv_aload_n hx hb dX4_readVisitor_96 rfl (lv_at hl 2 rfl) ?_
      refine lz_get (G := G) (ci := 4) (v := .ref (q 6)) (C := RX4) (T := TX4) (N := 24) hx hb hu_wsX40 (fun _ h9 => h9) hown hK hP 0 rfl rfl 6 (by decide) hw1 rfl rfl dX4_readVisitor_97 ?_
      refine lv_iconst (v := 3) hx hb dX4_readVisitor_100 (by decide) ?_
      refine lv_dup2_11 hx hb dX4_readVisitor_101 rfl rfl ?_
      refine lz_iald (f := upd (upd fr (44 + 4 * M) r_6) (44 + 4 * M + 1) r_12) hx hb hK hP 1 rfl 3 (by omega) (Nat.le_of_ble_eq_true rfl) dX4_readVisitor_102 ?_
      refine lv_iconst (v := 1) hx hb dX4_readVisitor_103 (by decide) ?_
      refine lv_iadd hx hb dX4_readVisitor_104 ?_
      refine lz_top (y := nI (M + 1)) (by rw [upd_ne (show 3 ≠ 44 + 4 * M + 1 by omega), upd_ne (show 3 ≠ 44 + 4 * M by omega), hM]; exact nI_1 M) ?_
      refine lz_iast (f := upd (upd fr (44 + 4 * M) r_6) (44 + 4 * M + 1) r_12) hx hb hK hP hD hS 1 rfl 3 (by omega) (Nat.le_of_ble_eq_true rfl) dX4_readVisitor_105 (lzM m q u_16 ++ (lzI G (q 6) 64 (upd (upd (upd fr (44 + 4 * M) r_6) (44 + 4 * M + 1) r_12) 3 (nI (M + 1))) ++ (lzI G (q 10) 120 tb))) rfl (fun H locs hP hD hS => ?_)
      exact rw_vret (S := Nat → Int32) (G := G) (Wd := fun u9 : Nat → Int32 => (lzM m q u9 ++ (lzI G (q 6) 64 (vsF tb L M z fr) ++ (lzI G (q 10) 120 tb)))) u_16 hx hb hr hlk dX4_readVisitor_106 hS (by show va_P G.1 lzC (lzM m q _ ++ (lzI G (q 6) 64 (vsF tb L M z fr) ++ lzI G (q 10) 120 tb)) _; unfold vsF; first | (rw [if_pos h0, ← hr9, ← hr8]; exact hP) | (rw [if_neg h0]; exact hP)) (⟨by assumption, by assumption⟩)
  · skip
    have hk5 : ¬ M < 5 := fun h9 => absurd ((nI_eq (b := 5) (by omega) (by omega)).mp (hM.symm.trans c_7)) (by omega)
    refine lv_aload_n hx hb dX4_readVisitor_10 rfl (lv_at hl 0 rfl) ?_
    refine lv_iconst (v := 3) hx hb dX4_readVisitor_11 (by decide) ?_
    have hPc := hP.sub (ws' := lzM m q S) [0] rfl
    have hDc := hD.sub (ws' := lzM m q S) [0] (by decide) rfl
    have hFc : ∀ zz : Nat, lzA (lzM m q S) zz → A zz := lz_free hD [0] rfl
    refine va_callv (va_runV (As := [.int 3]) (rest := []) ⟨hx, hb, hml, hown, hts⟩ (c_X4_badR l G m q S tb L z 3 (hR) (hL1) (by decide)) (cwV 1 hts gX4_readVisitor_X4_bad rfl rfl rfl (by decide +kernel) ⟨Nat.le_of_ble_eq_true rfl, Nat.le_of_ble_eq_true rfl⟩) (rw_preV hK hPc hDc hP (ci := 4) (q0 := 0) rfl rfl) rfl rfl hl.1 rfl (lv_room (Nat.le_of_ble_eq_true rfl)) dX4_readVisitor_12 ⟨Nat.zero_le _, Nat.zero_le _⟩) hS (fun q _ h => hFc q h) hFc (fun u_19 t9 H1 locs ht hvm hr_18 hB hz1 hk1 hS => ?_)
    replace hB : va_P G.1 lzC _ t9.heap := hB
    rw [ht] at hB
    obtain ⟨hP, hD⟩ := lz_join (wc := lzM m q S) (wr := ([(q 6, .inl (G.2 0, 64, .inl fr)), (q 10, .inl (G.2 0, 120, .inl tb))] : va_W)) (w1 := lzM m q u_19) hP hD [0] [1, 2] rfl rfl (by decide) (by decide) rfl hk1 hB
    replace hP := hP.sub (ws' := (lzM m q u_19 ++ (lzI G (q 6) 64 fr ++ (lzI G (q 10) 120 tb)))) [2, 0, 1] rfl
    replace hD := hD.sub (ws' := (lzM m q u_19 ++ (lzI G (q 6) 64 fr ++ (lzI G (q 10) 120 tb)))) [2, 0, 1] (by decide) rfl
    clear ht hvm hB hz1 hk1
    generalize H1 = H at hP hS ⊢
    obtain ⟨hR_17, hE_17⟩ := hr_18
    refine lv_aload_n hx hb dX4_readVisitor_15 rfl (lv_at hl 0 rfl) ?_
    refine lv_aload_n hx hb dX4_readVisitor_16 rfl (lv_at hl 0 rfl) ?_
    refine lv_bipush (v := 118) hx hb dX4_readVisitor_17 (by decide) ?_
    have hPc := hP.sub (ws' := lzM m q u_19) [0] rfl
    refine ro_calli (va_runV (As := [.int 118]) (rest := [.ref m]) ⟨hx, hb, hml, hown, hts⟩ (c_X4_isLetter l G m q u_19 118 ) (cwV 1 hts gX4_readVisitor_X4_isLetter rfl rfl rfl (by decide +kernel) ⟨Nat.le_of_ble_eq_true rfl, Nat.le_of_ble_eq_true rfl⟩) (ro_preV hK hPc hP (ci := 4) (q0 := 0) rfl rfl) rfl rfl hl.1 rfl (lv_room (Nat.le_of_ble_eq_true rfl)) dX4_readVisitor_19 ⟨Nat.zero_le _, Nat.zero_le _⟩) (fun r_20 hr_20 => ?_)
    refine lz_top (y := b2 false) (by rw [hr_20, isLet_z hR_17 (by decide +kernel) (by decide +kernel)]; simp [hz0, hv0, failI]) ?_
    have hPc := hP.sub (ws' := (lzM m q u_19 ++ lzI G (q 10) 120 tb)) [0, 2] rfl
    have hDc := hD.sub (ws' := (lzM m q u_19 ++ lzI G (q 10) 120 tb)) [0, 2] (by decide) rfl
    have hFc : ∀ zz : Nat, lzA (lzM m q u_19 ++ lzI G (q 10) 120 tb) zz → A zz := lz_free hD [0, 2] rfl
    refine va_callv (va_runV (As := [.int (b2 false)]) (rest := []) ⟨hx, hb, hml, hown, hts⟩ (c_X4_mustR l G m q u_19 tb L (failI z.1 3, z.2) false (hR_17) (hL1)) (cwV 1 hts gX4_readVisitor_X4_must rfl rfl rfl (by decide +kernel) ⟨Nat.le_of_ble_eq_true rfl, Nat.le_of_ble_eq_true rfl⟩) (rw_preV hK hPc hDc hP (ci := 4) (q0 := 0) rfl rfl) rfl rfl hl.1 rfl (lv_room (Nat.le_of_ble_eq_true rfl)) dX4_readVisitor_22 ⟨Nat.zero_le _, Nat.zero_le _⟩) hS (fun q _ h => hFc q h) hFc (fun u_23 t9 H1 locs ht hvm hr_22 hB hz1 hk1 hS => ?_)
    replace hB : va_P G.1 lzC _ t9.heap := hB
    rw [ht] at hB
    obtain ⟨hP, hD⟩ := lz_join (wc := (lzM m q u_19 ++ lzI G (q 10) 120 tb)) (wr := ([(q 6, .inl (G.2 0, 64, .inl fr))] : va_W)) (w1 := (lzM m q u_23 ++ lzI G (q 10) 120 tb)) hP hD [0, 2] [1] rfl rfl (by decide) (by decide) rfl hk1 hB
    replace hP := hP.sub (ws' := (lzM m q u_23 ++ (lzI G (q 6) 64 fr ++ (lzI G (q 10) 120 tb)))) [1, 0, 2] rfl
    replace hD := hD.sub (ws' := (lzM m q u_23 ++ (lzI G (q 6) 64 fr ++ (lzI G (q 10) 120 tb)))) [1, 0, 2] (by decide) rfl
    clear ht hvm hB hz1 hk1
    generalize H1 = H at hP hS ⊢
    obtain ⟨hR_21, hE_21⟩ := hr_22
    have hE_21 := elM_t hE_17 hE_21
    replace hR_21 : rpM u_23 tb L (visA tb L M z) := by rw [← visA_full (b := false) hv0 hk5]; exact hR_21
    refine lv_aload_n hx hb dX4_readVisitor_25 rfl (lv_at hl 0 rfl) ?_
    refine lv_iconst (v := 0) hx hb dX4_readVisitor_26 (by decide) ?_
    refine lv_bipush (v := 9) hx hb dX4_readVisitor_27 (by decide) ?_
    have hPc := hP.sub (ws' := (lzM m q u_23 ++ lzI G (q 10) 120 tb)) [0, 2] rfl
    have hDc := hD.sub (ws' := (lzM m q u_23 ++ lzI G (q 10) 120 tb)) [0, 2] (by decide) rfl
    have hFc : ∀ zz : Nat, lzA (lzM m q u_23 ++ lzI G (q 10) 120 tb) zz → A zz := lz_free hD [0, 2] rfl
    refine va_calli (va_runV (As := [.int 0, .int 9]) (rest := []) ⟨hx, hb, hml, hown, hts⟩ (c_X4_numberR l G m q u_23 tb L (visA tb L M z) 0 9 (hR_21) (hL1)) (cwV 2 hts gX4_readVisitor_X4_number rfl rfl rfl (by decide +kernel) ⟨Nat.le_of_ble_eq_true rfl, Nat.le_of_ble_eq_true rfl⟩) (rw_preV hK hPc hDc hP (ci := 4) (q0 := 0) rfl rfl) rfl rfl hl.1 rfl (lv_room (Nat.le_of_ble_eq_true rfl)) dX4_readVisitor_29 ⟨Nat.zero_le _, Nat.zero_le _⟩) hS (fun q _ h => hFc q h) hFc (fun r_25 u_26 t9 H1 locs ht hvm hr_25 hB hz1 hk1 hS => ?_)
    replace hB : va_P G.1 lzC _ t9.heap := hB
    rw [ht] at hB
    obtain ⟨hP, hD⟩ := lz_join (wc := (lzM m q u_23 ++ lzI G (q 10) 120 tb)) (wr := ([(q 6, .inl (G.2 0, 64, .inl fr))] : va_W)) (w1 := (lzM m q u_26 ++ lzI G (q 10) 120 tb)) hP hD [0, 2] [1] rfl rfl (by decide) (by decide) rfl hk1 hB
    replace hP := hP.sub (ws' := (lzM m q u_26 ++ (lzI G (q 6) 64 fr ++ (lzI G (q 10) 120 tb)))) [1, 0, 2] rfl
    replace hD := hD.sub (ws' := (lzM m q u_26 ++ (lzI G (q 6) 64 fr ++ (lzI G (q 10) 120 tb)))) [1, 0, 2] (by decide) rfl
    clear ht hvm hB hz1 hk1
    generalize H1 = H at hP hS ⊢
    obtain ⟨hR_24, hE_24, hV_24⟩ := hr_25
    have hE_24 := elM_t hE_21 hE_24
    refine lv_istore_n (lv' := [(1, .int r_25), (0, .ref m)]) hx hb dX4_readVisitor_32 rfl hl (by decide) rfl (fun ls hl => ?_)
    refine lv_aload_n hx hb dX4_readVisitor_33 rfl (lv_at hl 1 rfl) ?_
    refine lv_bipush (v := 44) hx hb dX4_readVisitor_34 (by decide) ?_
    have hPc := hP.sub (ws' := (lzM m q u_26 ++ lzI G (q 10) 120 tb)) [0, 2] rfl
    have hDc := hD.sub (ws' := (lzM m q u_26 ++ lzI G (q 10) 120 tb)) [0, 2] (by decide) rfl
    have hFc : ∀ zz : Nat, lzA (lzM m q u_26 ++ lzI G (q 10) 120 tb) zz → A zz := lz_free hD [0, 2] rfl
    refine va_callv (va_runV (As := [.int 44]) (rest := []) ⟨hx, hb, hml, hown, hts⟩ (c_X4_signR l G m q u_26 tb L (numS tb L 0 9 (visA tb L M z)) 44 (hR_24) (hL1) (by decide)) (cwV 1 hts gX4_readVisitor_X4_mustSign rfl rfl rfl (by decide +kernel) ⟨Nat.le_of_ble_eq_true rfl, Nat.le_of_ble_eq_true rfl⟩) (rw_preV hK hPc hDc hP (ci := 4) (q0 := 0) rfl rfl) rfl rfl hl.1 rfl (lv_room (Nat.le_of_ble_eq_true rfl)) dX4_readVisitor_36 ⟨Nat.zero_le _, Nat.zero_le _⟩) hS (fun q _ h => hFc q h) hFc (fun u_29 t9 H1 locs ht hvm hr_28 hB hz1 hk1 hS => ?_)
    replace hB : va_P G.1 lzC _ t9.heap := hB
    rw [ht] at hB
    obtain ⟨hP, hD⟩ := lz_join (wc := (lzM m q u_26 ++ lzI G (q 10) 120 tb)) (wr := ([(q 6, .inl (G.2 0, 64, .inl fr))] : va_W)) (w1 := (lzM m q u_29 ++ lzI G (q 10) 120 tb)) hP hD [0, 2] [1] rfl rfl (by decide) (by decide) rfl hk1 hB
    replace hP := hP.sub (ws' := (lzM m q u_29 ++ (lzI G (q 6) 64 fr ++ (lzI G (q 10) 120 tb)))) [1, 0, 2] rfl
    replace hD := hD.sub (ws' := (lzM m q u_29 ++ (lzI G (q 6) 64 fr ++ (lzI G (q 10) 120 tb)))) [1, 0, 2] (by decide) rfl
    clear ht hvm hB hz1 hk1
    generalize H1 = H at hP hS ⊢
    obtain ⟨hR_27, hE_27⟩ := hr_28
    have hE_27 := elM_t hE_24 hE_27
    refine lv_aload_n hx hb dX4_readVisitor_39 rfl (lv_at hl 1 rfl) ?_
    refine lv_iconst (v := 0) hx hb dX4_readVisitor_40 (by decide) ?_
    refine lv_bipush (v := 9) hx hb dX4_readVisitor_41 (by decide) ?_
    have hPc := hP.sub (ws' := (lzM m q u_29 ++ lzI G (q 10) 120 tb)) [0, 2] rfl
    have hDc := hD.sub (ws' := (lzM m q u_29 ++ lzI G (q 10) 120 tb)) [0, 2] (by decide) rfl
    have hFc : ∀ zz : Nat, lzA (lzM m q u_29 ++ lzI G (q 10) 120 tb) zz → A zz := lz_free hD [0, 2] rfl
    refine va_calli (va_runV (As := [.int 0, .int 9]) (rest := []) ⟨hx, hb, hml, hown, hts⟩ (c_X4_numberR l G m q u_29 tb L (sgnS tb L 44 (numS tb L 0 9 (visA tb L M z))) 0 9 (hR_27) (hL1)) (cwV 2 hts gX4_readVisitor_X4_number rfl rfl rfl (by decide +kernel) ⟨Nat.le_of_ble_eq_true rfl, Nat.le_of_ble_eq_true rfl⟩) (rw_preV hK hPc hDc hP (ci := 4) (q0 := 0) rfl rfl) rfl rfl hl.1 rfl (lv_room (Nat.le_of_ble_eq_true rfl)) dX4_readVisitor_43 ⟨Nat.zero_le _, Nat.zero_le _⟩) hS (fun q _ h => hFc q h) hFc (fun r_31 u_32 t9 H1 locs ht hvm hr_31 hB hz1 hk1 hS => ?_)
    replace hB : va_P G.1 lzC _ t9.heap := hB
    rw [ht] at hB
    obtain ⟨hP, hD⟩ := lz_join (wc := (lzM m q u_29 ++ lzI G (q 10) 120 tb)) (wr := ([(q 6, .inl (G.2 0, 64, .inl fr))] : va_W)) (w1 := (lzM m q u_32 ++ lzI G (q 10) 120 tb)) hP hD [0, 2] [1] rfl rfl (by decide) (by decide) rfl hk1 hB
    replace hP := hP.sub (ws' := (lzM m q u_32 ++ (lzI G (q 6) 64 fr ++ (lzI G (q 10) 120 tb)))) [1, 0, 2] rfl
    replace hD := hD.sub (ws' := (lzM m q u_32 ++ (lzI G (q 6) 64 fr ++ (lzI G (q 10) 120 tb)))) [1, 0, 2] (by decide) rfl
    clear ht hvm hB hz1 hk1
    generalize H1 = H at hP hS ⊢
    obtain ⟨hR_30, hE_30, hV_30⟩ := hr_31
    have hE_30 := elM_t hE_27 hE_30
    refine lv_istore_n (lv' := [(2, .int r_31), (1, .int r_25), (0, .ref m)]) hx hb dX4_readVisitor_46 rfl hl (by decide) rfl (fun ls hl => ?_)
    refine lv_aload_n hx hb dX4_readVisitor_47 rfl (lv_at hl 2 rfl) ?_
    refine lv_bipush (v := 59) hx hb dX4_readVisitor_48 (by decide) ?_
    have hPc := hP.sub (ws' := (lzM m q u_32 ++ lzI G (q 10) 120 tb)) [0, 2] rfl
    have hDc := hD.sub (ws' := (lzM m q u_32 ++ lzI G (q 10) 120 tb)) [0, 2] (by decide) rfl
    have hFc : ∀ zz : Nat, lzA (lzM m q u_32 ++ lzI G (q 10) 120 tb) zz → A zz := lz_free hD [0, 2] rfl
    refine va_callv (va_runV (As := [.int 59]) (rest := []) ⟨hx, hb, hml, hown, hts⟩ (c_X4_signR l G m q u_32 tb L (numS tb L 0 9 (sgnS tb L 44 (numS tb L 0 9 (visA tb L M z)))) 59 (hR_30) (hL1) (by decide)) (cwV 1 hts gX4_readVisitor_X4_mustSign rfl rfl rfl (by decide +kernel) ⟨Nat.le_of_ble_eq_true rfl, Nat.le_of_ble_eq_true rfl⟩) (rw_preV hK hPc hDc hP (ci := 4) (q0 := 0) rfl rfl) rfl rfl hl.1 rfl (lv_room (Nat.le_of_ble_eq_true rfl)) dX4_readVisitor_50 ⟨Nat.zero_le _, Nat.zero_le _⟩) hS (fun q _ h => hFc q h) hFc (fun u_35 t9 H1 locs ht hvm hr_34 hB hz1 hk1 hS => ?_)
    replace hB : va_P G.1 lzC _ t9.heap := hB
    rw [ht] at hB
    obtain ⟨hP, hD⟩ := lz_join (wc := (lzM m q u_32 ++ lzI G (q 10) 120 tb)) (wr := ([(q 6, .inl (G.2 0, 64, .inl fr))] : va_W)) (w1 := (lzM m q u_35 ++ lzI G (q 10) 120 tb)) hP hD [0, 2] [1] rfl rfl (by decide) (by decide) rfl hk1 hB
    replace hP := hP.sub (ws' := (lzM m q u_35 ++ (lzI G (q 6) 64 fr ++ (lzI G (q 10) 120 tb)))) [1, 0, 2] rfl
    replace hD := hD.sub (ws' := (lzM m q u_35 ++ (lzI G (q 6) 64 fr ++ (lzI G (q 10) 120 tb)))) [1, 0, 2] (by decide) rfl
    clear ht hvm hB hz1 hk1
    generalize H1 = H at hP hS ⊢
    obtain ⟨hR_33, hE_33⟩ := hr_34
    have hE_33 := elM_t hE_30 hE_33
    refine lv_aload_n hx hb dX4_readVisitor_53 rfl (lv_at hl 2 rfl) ?_
    refine lz_get (G := G) (ci := 4) (v := .int (u_35 16)) (C := RX4) (T := TX4) (N := 24) hx hb hu_wsX40 (fun _ h9 => h9) hown hK hP 0 rfl rfl 16 (by decide) hw2 rfl rfl dX4_readVisitor_54 ?_
    refine lv_if_ne (tgt := 106) hx hb dX4_readVisitor_57 (by decide) (fun c_57 => ?_) (fun c_57 => ?_)
    · skip
      have h0 : ¬ (visZ tb L M z).1 = 0 := fun q9 => c_57 ((rpM_z hR_33).mpr q9)
      exact rw_vret (S := Nat → Int32) (G := G) (Wd := fun u9 : Nat → Int32 => (lzM m q u9 ++ (lzI G (q 6) 64 (vsF tb L M z fr) ++ (lzI G (q 10) 120 tb)))) u_35 hx hb hr hlk dX4_readVisitor_106 hS (by show va_P G.1 lzC (lzM m q _ ++ (lzI G (q 6) 64 (vsF tb L M z fr) ++ lzI G (q 10) 120 tb)) _; unfold vsF; first | (rw [if_pos h0, ← hr9, ← hr8]; exact hP) | (rw [if_neg h0]; exact hP)) (⟨by assumption, by assumption⟩)
    · skip
      exact absurd (visA_0 (numS_0 (sgnS_0 (numS_0 (sgnS_0 ((rpM_z hR_33).mp c_57)))))).2 hk5
set_option maxHeartbeats 4000000 in
set_option maxRecDepth 100000 in
theorem c_X4_failedR (l : Launch) (G : lzG) (m : Nat) (q : Nat → Nat) (S : Nat → Int32) (tb : Nat → Int32) (L : Nat) (z : Int32 × Nat) (hR : rpM S tb L z) (hL1 : L ≤ 120) : Met l yX4_failed wsX4_failed ({ frames := 1, cells := 0, slots := 0, locals := 21 }) (va_Pc [.ref m] (rwP G (lzM m q S))) (va_Qi (S := Nat → Int32) (fun (r : Int32) u9 => r = b2 (!decide ((finZ L z).1 = 0)) ∧ flM S u9 L z) (rwB G (fun u9 : Nat → Int32 => lzM m q u9)) (lzA (lzM m q S))) 0 0 (lzA (lzM m q S)) := by
  refine rw_start (S := Nat → Int32) (cc := cX4_failed) (maxL := 1) (ret := (some .boolean)) (by decide) rfl (Nat.le_of_ble_eq_true rfl) ?_
  intro pp ee ss mm bl me cd A hx hb hr hlk hml hts hown hP hK hD hAe hS ls hl
  have hA0 : ∀ zz : Nat, lzA (lzM m q S) zz → A zz := fun zz h9 => by rw [hAe]; exact h9
  rw [← hAe]
  clear hAe
  have hown : ss.vm.findClass RX4 = some mm.cls := hown
  have hw1 := hts (.fieldLink RX4 79 "LampSquaresModel" "fault" "I") (List.mem_of_getElem? (i := 1) rfl)
  have hw2 := hts (.fieldLink RX4 103 "LampSquaresModel" "token" "I") (List.mem_of_getElem? (i := 2) rfl)
  have hw3 := hts (.fieldLink RX4 75 "LampSquaresModel" "taped" "I") (List.mem_of_getElem? (i := 3) rfl)
  have hw4 := hts (.fieldLink RX4 117 "LampSquaresModel" "latest" "I") (List.mem_of_getElem? (i := 4) rfl)
  have hu_wsX40 : ∀ w ∈ wsX40, w.before ([.ref m] : List Value).toArray ss = true := fun w h9 => hts w (List.mem_cons_of_mem _ (List.mem_append_right _ h9))
  have hl : lv_has ls 1 [(0, .ref m)] := hl
  refine lv_aload_n hx hb dX4_failed_0 rfl (lv_at hl 0 rfl) ?_
  refine lz_get (G := G) (ci := 4) (v := .int (S 16)) (C := RX4) (T := TX4) (N := 24) hx hb hu_wsX40 (fun _ h9 => h9) hown hK hP 0 rfl rfl 16 (by decide) hw1 rfl rfl dX4_failed_1 ?_
  refine lv_if_ne (tgt := 20) hx hb dX4_failed_4 (by decide) (fun c_4 => ?_) (fun c_4 => ?_)
  · skip
    refine lv_aload_n hx hb dX4_failed_20 rfl (lv_at hl 0 rfl) ?_
    refine lv_iconst (v := 0) hx hb dX4_failed_21 (by decide) ?_
    refine lz_put (G := G) (ci := 4) (C := RX4) (T := TX4) (N := 24) hx hb hu_wsX40 (fun _ h9 => h9) tyX4 tyX4_ok nmX4 hown hK hP hD hS 0 rfl rfl 11 (by decide) hw3 rfl rfl (by decide +kernel) (Nat.le_of_ble_eq_true rfl) dX4_failed_22 (lzM m q (upd S 11 0)) rfl (fun H locs hP hD hS => ?_)
    refine lv_aload_n hx hb dX4_failed_25 rfl (lv_at hl 0 rfl) ?_
    refine lv_aload_n hx hb dX4_failed_26 rfl (lv_at hl 0 rfl) ?_
    refine lz_get (G := G) (ci := 4) (v := .int (S 16)) (C := RX4) (T := TX4) (N := 24) hx hb hu_wsX40 (fun _ h9 => h9) hown hK hP 0 rfl rfl 16 (by decide) hw1 rfl rfl dX4_failed_27 ?_
    refine lv_if_le (tgt := 40) hx hb dX4_failed_30 (by decide) (fun c_30 => ?_) (fun c_30 => ?_)
    · skip
      have c_30' := Int32.not_lt.mpr c_30
      exact absurd c_30 (Int32.not_le.mpr (by rw [hR.2.2.1]; exact (hR.2.2.2.2 (fun q9 => c_4 ((rpM_z hR).mpr q9))).2))
    · skip
      have c_30' := Int32.not_le.mp c_30
      refine lv_aload_n hx hb dX4_failed_33 rfl (lv_at hl 0 rfl) ?_
      refine lz_get (G := G) (ci := 4) (v := .int (S 16)) (C := RX4) (T := TX4) (N := 24) hx hb hu_wsX40 (fun _ h9 => h9) hown hK hP 0 rfl rfl 16 (by decide) hw1 rfl rfl dX4_failed_34 ?_
      refine lv_goto (tgt := 44) hx hb dX4_failed_37 (by decide) ?_
      refine lz_put (G := G) (ci := 4) (C := RX4) (T := TX4) (N := 24) hx hb hu_wsX40 (fun _ h9 => h9) tyX4 tyX4_ok nmX4 hown hK hP hD hS 0 rfl rfl 18 (by decide) hw4 rfl rfl (by decide +kernel) (Nat.le_of_ble_eq_true rfl) dX4_failed_44 (lzM m q (upd (upd S 11 0) 18 (S 16))) rfl (fun H locs hP hD hS => ?_)
      refine lv_aload_n hx hb dX4_failed_47 rfl (lv_at hl 0 rfl) ?_
      refine lz_get (G := G) (ci := 4) (v := .int (S 16)) (C := RX4) (T := TX4) (N := 24) hx hb hu_wsX40 (fun _ h9 => h9) hown hK hP 0 rfl rfl 16 (by decide) hw1 rfl rfl dX4_failed_48 ?_
      refine lv_if_le (tgt := 58) hx hb dX4_failed_51 (by decide) (fun c_51 => ?_) (fun c_51 => ?_)
      · skip
        have c_51' := Int32.not_lt.mpr c_51
        exact absurd c_51 c_30
      · skip
        have c_51' := Int32.not_le.mp c_51
        refine lv_iconst (v := 1) hx hb dX4_failed_54 (by decide) ?_
        refine lv_goto (tgt := 59) hx hb dX4_failed_55 (by decide) ?_
        exact rw_zret (S := Nat → Int32) (G := G) (Wd := fun u9 : Nat → Int32 => lzM m q u9) (B := !decide ((finZ L z).1 = 0)) (upd (upd S 11 0) 18 (S 16)) hx hb hr hlk dX4_failed_59 hS (hP) (by first | exact (fl_ok hR c_4 c_12).1 | exact (fl_bad hR c_4 (elM_r S) (fin_bad (fun q9 => c_4 ((rpM_z hR).mpr q9)))).1 | exact (fl_bad hR (by rw [hR.2.2.1]; exact fun q9 => failI_0 (k := 1) (by decide) q9) hE (fin_more hR c_4 c_12)).1) (by first | exact ⟨rfl, (fl_ok hR c_4 c_12).2⟩ | exact ⟨rfl, (fl_bad hR c_4 (elM_r S) (fin_bad (fun q9 => c_4 ((rpM_z hR).mpr q9)))).2⟩ | exact ⟨rfl, (fl_bad hR (by rw [hR.2.2.1]; exact fun q9 => failI_0 (k := 1) (by decide) q9) hE (fin_more hR c_4 c_12)).2⟩)
  · skip
    refine lv_aload_n hx hb dX4_failed_7 rfl (lv_at hl 0 rfl) ?_
    refine lz_get (G := G) (ci := 4) (v := .int (S 14)) (C := RX4) (T := TX4) (N := 24) hx hb hu_wsX40 (fun _ h9 => h9) hown hK hP 0 rfl rfl 14 (by decide) hw2 rfl rfl dX4_failed_8 ?_
    refine lv_iconst (v := 1) hx hb dX4_failed_11 (by decide) ?_
    refine lv_icmp_eq (tgt := 20) hx hb dX4_failed_12 (by decide) (fun c_12 => ?_) (fun c_12 => ?_)
    · skip
      refine lv_aload_n hx hb dX4_failed_20 rfl (lv_at hl 0 rfl) ?_
      refine lv_iconst (v := 0) hx hb dX4_failed_21 (by decide) ?_
      refine lz_put (G := G) (ci := 4) (C := RX4) (T := TX4) (N := 24) hx hb hu_wsX40 (fun _ h9 => h9) tyX4 tyX4_ok nmX4 hown hK hP hD hS 0 rfl rfl 11 (by decide) hw3 rfl rfl (by decide +kernel) (Nat.le_of_ble_eq_true rfl) dX4_failed_22 (lzM m q (upd S 11 0)) rfl (fun H locs hP hD hS => ?_)
      refine lv_aload_n hx hb dX4_failed_25 rfl (lv_at hl 0 rfl) ?_
      refine lv_aload_n hx hb dX4_failed_26 rfl (lv_at hl 0 rfl) ?_
      refine lz_get (G := G) (ci := 4) (v := .int (S 16)) (C := RX4) (T := TX4) (N := 24) hx hb hu_wsX40 (fun _ h9 => h9) hown hK hP 0 rfl rfl 16 (by decide) hw1 rfl rfl dX4_failed_27 ?_
      refine lv_if_le (tgt := 40) hx hb dX4_failed_30 (by decide) (fun c_30 => ?_) (fun c_30 => ?_)
      · skip
        have c_30' := Int32.not_lt.mpr c_30
        refine lv_aload_n hx hb dX4_failed_40 rfl (lv_at hl 0 rfl) ?_
        refine lz_get (G := G) (ci := 4) (v := .int (S 18)) (C := RX4) (T := TX4) (N := 24) hx hb hu_wsX40 (fun _ h9 => h9) hown hK hP 0 rfl rfl 18 (by decide) hw4 rfl rfl dX4_failed_41 ?_
        refine lz_put (G := G) (ci := 4) (C := RX4) (T := TX4) (N := 24) hx hb hu_wsX40 (fun _ h9 => h9) tyX4 tyX4_ok nmX4 hown hK hP hD hS 0 rfl rfl 18 (by decide) hw4 rfl rfl (by decide +kernel) (Nat.le_of_ble_eq_true rfl) dX4_failed_44 (lzM m q (upd (upd S 11 0) 18 (S 18))) rfl (fun H locs hP hD hS => ?_)
        refine lv_aload_n hx hb dX4_failed_47 rfl (lv_at hl 0 rfl) ?_
        refine lz_get (G := G) (ci := 4) (v := .int (S 16)) (C := RX4) (T := TX4) (N := 24) hx hb hu_wsX40 (fun _ h9 => h9) hown hK hP 0 rfl rfl 16 (by decide) hw1 rfl rfl dX4_failed_48 ?_
        refine lv_if_le (tgt := 58) hx hb dX4_failed_51 (by decide) (fun c_51 => ?_) (fun c_51 => ?_)
        · skip
          have c_51' := Int32.not_lt.mpr c_51
          refine lv_iconst (v := 0) hx hb dX4_failed_58 (by decide) ?_
          exact rw_zret (S := Nat → Int32) (G := G) (Wd := fun u9 : Nat → Int32 => lzM m q u9) (B := !decide ((finZ L z).1 = 0)) (upd (upd S 11 0) 18 (S 18)) hx hb hr hlk dX4_failed_59 hS (hP) (by first | exact (fl_ok hR c_4 c_12).1 | exact (fl_bad hR c_4 (elM_r S) (fin_bad (fun q9 => c_4 ((rpM_z hR).mpr q9)))).1 | exact (fl_bad hR (by rw [hR.2.2.1]; exact fun q9 => failI_0 (k := 1) (by decide) q9) hE (fin_more hR c_4 c_12)).1) (by first | exact ⟨rfl, (fl_ok hR c_4 c_12).2⟩ | exact ⟨rfl, (fl_bad hR c_4 (elM_r S) (fin_bad (fun q9 => c_4 ((rpM_z hR).mpr q9)))).2⟩ | exact ⟨rfl, (fl_bad hR (by rw [hR.2.2.1]; exact fun q9 => failI_0 (k := 1) (by decide) q9) hE (fin_more hR c_4 c_12)).2⟩)
        · skip
          have c_51' := Int32.not_le.mp c_51
          exact absurd c_30 c_51
      · skip
        have c_30' := Int32.not_le.mp c_30
        exact absurd (show S 16 ≤ 0 by rw [c_4]; decide) c_30
    · skip
      refine lv_aload_n hx hb dX4_failed_15 rfl (lv_at hl 0 rfl) ?_
      refine lv_iconst (v := 1) hx hb dX4_failed_16 (by decide) ?_
      have hFc : ∀ zz : Nat, lzA (lzM m q S) zz → A zz := lz_free hD [0] rfl
      refine va_callv (va_runV (As := [.int 1]) (rest := []) ⟨hx, hb, hml, hown, hts⟩ (c_X4_badR l G m q S tb L z 1 (hR) (hL1) (by decide)) (cwV 1 hts gX4_failed_X4_bad rfl rfl rfl (by decide +kernel) ⟨Nat.le_of_ble_eq_true rfl, Nat.le_of_ble_eq_true rfl⟩) (rw_preV hK hP hD hP (ci := 4) (q0 := 0) rfl rfl) rfl rfl hl.1 rfl (lv_room (Nat.le_of_ble_eq_true rfl)) dX4_failed_17 ⟨Nat.zero_le _, Nat.zero_le _⟩) hS (fun q _ h => hFc q h) hFc (fun u_3 t9 H1 locs ht hvm hr_2 hB hz1 hk1 hS => ?_)
      replace hB : va_P G.1 lzC _ t9.heap := hB
      rw [ht] at hB
      obtain ⟨hP, hD⟩ := lz_join (wc := lzM m q S) (wr := ([] : va_W)) (w1 := lzM m q u_3) hP hD [0] [] rfl rfl (by decide) (by decide) rfl hk1 hB
      replace hP := hP.sub (ws' := lzM m q u_3) [0] rfl
      replace hD := hD.sub (ws' := lzM m q u_3) [0] (by decide) rfl
      clear ht hvm hB hz1 hk1
      generalize H1 = H at hP hS ⊢
      obtain ⟨hR_1, hE_1⟩ := hr_2
      refine lv_aload_n hx hb dX4_failed_20 rfl (lv_at hl 0 rfl) ?_
      refine lv_iconst (v := 0) hx hb dX4_failed_21 (by decide) ?_
      refine lz_put (G := G) (ci := 4) (C := RX4) (T := TX4) (N := 24) hx hb hu_wsX40 (fun _ h9 => h9) tyX4 tyX4_ok nmX4 hown hK hP hD hS 0 rfl rfl 11 (by decide) hw3 rfl rfl (by decide +kernel) (Nat.le_of_ble_eq_true rfl) dX4_failed_22 (lzM m q (upd u_3 11 0)) rfl (fun H locs hP hD hS => ?_)
      refine lv_aload_n hx hb dX4_failed_25 rfl (lv_at hl 0 rfl) ?_
      refine lv_aload_n hx hb dX4_failed_26 rfl (lv_at hl 0 rfl) ?_
      refine lz_get (G := G) (ci := 4) (v := .int (u_3 16)) (C := RX4) (T := TX4) (N := 24) hx hb hu_wsX40 (fun _ h9 => h9) hown hK hP 0 rfl rfl 16 (by decide) hw1 rfl rfl dX4_failed_27 ?_
      refine lv_if_le (tgt := 40) hx hb dX4_failed_30 (by decide) (fun c_30 => ?_) (fun c_30 => ?_)
      · skip
        have c_30' := Int32.not_lt.mpr c_30
        exact absurd c_30 (Int32.not_le.mpr (by rw [hR_1.2.2.1]; exact (hR_1.2.2.2.2 (fun q9 => failI_0 (k := 1) (by decide) q9)).2))
      · skip
        have c_30' := Int32.not_le.mp c_30
        refine lv_aload_n hx hb dX4_failed_33 rfl (lv_at hl 0 rfl) ?_
        refine lz_get (G := G) (ci := 4) (v := .int (u_3 16)) (C := RX4) (T := TX4) (N := 24) hx hb hu_wsX40 (fun _ h9 => h9) hown hK hP 0 rfl rfl 16 (by decide) hw1 rfl rfl dX4_failed_34 ?_
        refine lv_goto (tgt := 44) hx hb dX4_failed_37 (by decide) ?_
        refine lz_put (G := G) (ci := 4) (C := RX4) (T := TX4) (N := 24) hx hb hu_wsX40 (fun _ h9 => h9) tyX4 tyX4_ok nmX4 hown hK hP hD hS 0 rfl rfl 18 (by decide) hw4 rfl rfl (by decide +kernel) (Nat.le_of_ble_eq_true rfl) dX4_failed_44 (lzM m q (upd (upd u_3 11 0) 18 (u_3 16))) rfl (fun H locs hP hD hS => ?_)
        refine lv_aload_n hx hb dX4_failed_47 rfl (lv_at hl 0 rfl) ?_
        refine lz_get (G := G) (ci := 4) (v := .int (u_3 16)) (C := RX4) (T := TX4) (N := 24) hx hb hu_wsX40 (fun _ h9 => h9) hown hK hP 0 rfl rfl 16 (by decide) hw1 rfl rfl dX4_failed_48 ?_
        refine lv_if_le (tgt := 58) hx hb dX4_failed_51 (by decide) (fun c_51 => ?_) (fun c_51 => ?_)
        · skip
          have c_51' := Int32.not_lt.mpr c_51
          exact absurd c_51 c_30
        · skip
          have c_51' := Int32.not_le.mp c_51
          refine lv_iconst (v := 1) hx hb dX4_failed_54 (by decide) ?_
          refine lv_goto (tgt := 59) hx hb dX4_failed_55 (by decide) ?_
          exact rw_zret (S := Nat → Int32) (G := G) (Wd := fun u9 : Nat → Int32 => lzM m q u9) (B := !decide ((finZ L z).1 = 0)) (upd (upd u_3 11 0) 18 (u_3 16)) hx hb hr hlk dX4_failed_59 hS (hP) (by first | exact (fl_ok hR c_4 c_12).1 | exact (fl_bad hR c_4 (elM_r S) (fin_bad (fun q9 => c_4 ((rpM_z hR).mpr q9)))).1 | exact (fl_bad hR_1 (by rw [hR_1.2.2.1]; exact fun q9 => failI_0 (k := 1) (by decide) q9) hE_1 (fin_more hR c_4 c_12)).1) (by first | exact ⟨rfl, (fl_ok hR c_4 c_12).2⟩ | exact ⟨rfl, (fl_bad hR c_4 (elM_r S) (fin_bad (fun q9 => c_4 ((rpM_z hR).mpr q9)))).2⟩ | exact ⟨rfl, (fl_bad hR_1 (by rw [hR_1.2.2.1]; exact fun q9 => failI_0 (k := 1) (by decide) q9) hE_1 (fin_more hR c_4 c_12)).2⟩)
