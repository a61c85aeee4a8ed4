set_option maxHeartbeats 4000000 in
set_option maxRecDepth 100000 in
theorem c_J6_bitCount_0f7a4 (l : Launch) (G : lzG) (x : Int32)  : Met l yJ6_bitCount_0f7a4 wsJ6_bitCount_0f7a4 ({ frames := 0, cells := 0, slots := 0, locals := 0 }) (va_Pc [.int x] (roP G ([] : va_W))) (vp_Si (fun r => r = bcI x)) 0 0 (fun _ => False) := by
  refine ro_start (cc := cJ6_bitCount_0f7a4) (maxL := 1) (ret := (some .int)) (by decide) rfl (Nat.le_of_ble_eq_true rfl) ?_
  intro pp ee ss mm bl me cd hx hb hr hlk hml hts hown hP hK ls hl
  have hown : ss.vm.findClass RJ6 = some mm.cls := hown
  have hw1 := hts (.constant RJ6 265 (1431655765)) (List.mem_of_getElem? (i := 1) rfl)
  have hw2 := hts (.constant RJ6 266 (858993459)) (List.mem_of_getElem? (i := 2) rfl)
  have hw3 := hts (.constant RJ6 267 (252645135)) (List.mem_of_getElem? (i := 3) rfl)
  have hl : lv_has ls 1 [(0, .int x)] := hl
  refine lv_iload_n hx hb dJ6_bitCount_0f7a4_0 rfl (lv_at hl 0 rfl) ?_
  refine lv_iload_n hx hb dJ6_bitCount_0f7a4_1 rfl (lv_at hl 0 rfl) ?_
  refine lv_iconst (v := 1) hx hb dJ6_bitCount_0f7a4_2 (by decide) ?_
  refine lv_iushr hx hb dJ6_bitCount_0f7a4_3 rfl ?_
  refine lv_ldcw hx hb hown hw1 dJ6_bitCount_0f7a4_4 ?_
  refine lv_iand hx hb dJ6_bitCount_0f7a4_7 ?_
  refine lv_isub hx hb dJ6_bitCount_0f7a4_8 ?_
  refine lv_topi (fun x_1 ex_1 => ?_)
  refine lv_istore_n (lv' := [(0, .int x_1)]) hx hb dJ6_bitCount_0f7a4_9 rfl hl (by decide) rfl (fun ls hl => ?_)
  refine lv_iload_n hx hb dJ6_bitCount_0f7a4_10 rfl (lv_at hl 0 rfl) ?_
  refine lv_ldcw hx hb hown hw2 dJ6_bitCount_0f7a4_11 ?_
  refine lv_iand hx hb dJ6_bitCount_0f7a4_14 ?_
  refine lv_iload_n hx hb dJ6_bitCount_0f7a4_15 rfl (lv_at hl 0 rfl) ?_
  refine lv_iconst (v := 2) hx hb dJ6_bitCount_0f7a4_16 (by decide) ?_
  refine lv_iushr hx hb dJ6_bitCount_0f7a4_17 rfl ?_
  refine lv_ldcw hx hb hown hw2 dJ6_bitCount_0f7a4_18 ?_
  refine lv_iand hx hb dJ6_bitCount_0f7a4_21 ?_
  refine lv_iadd hx hb dJ6_bitCount_0f7a4_22 ?_
  refine lv_topi (fun x_2 ex_2 => ?_)
  refine lv_istore_n (lv' := [(0, .int x_2)]) hx hb dJ6_bitCount_0f7a4_23 rfl hl (by decide) rfl (fun ls hl => ?_)
  refine lv_iload_n hx hb dJ6_bitCount_0f7a4_24 rfl (lv_at hl 0 rfl) ?_
  refine lv_iload_n hx hb dJ6_bitCount_0f7a4_25 rfl (lv_at hl 0 rfl) ?_
  refine lv_iconst (v := 4) hx hb dJ6_bitCount_0f7a4_26 (by decide) ?_
  refine lv_iushr hx hb dJ6_bitCount_0f7a4_27 rfl ?_
  refine lv_iadd hx hb dJ6_bitCount_0f7a4_28 ?_
  refine lv_ldcw hx hb hown hw3 dJ6_bitCount_0f7a4_29 ?_
  refine lv_iand hx hb dJ6_bitCount_0f7a4_32 ?_
  refine lv_topi (fun x_3 ex_3 => ?_)
  refine lv_istore_n (lv' := [(0, .int x_3)]) hx hb dJ6_bitCount_0f7a4_33 rfl hl (by decide) rfl (fun ls hl => ?_)
  refine lv_iload_n hx hb dJ6_bitCount_0f7a4_34 rfl (lv_at hl 0 rfl) ?_
  refine lv_iload_n hx hb dJ6_bitCount_0f7a4_35 rfl (lv_at hl 0 rfl) ?_
  refine lv_bipush (v := 8) hx hb dJ6_bitCount_0f7a4_36 (by decide) ?_
  refine lv_iushr hx hb dJ6_bitCount_0f7a4_38 rfl ?_
  refine lv_iadd hx hb dJ6_bitCount_0f7a4_39 ?_
  refine lv_topi (fun x_4 ex_4 => ?_)
  refine lv_istore_n (lv' := [(0, .int x_4)]) hx hb dJ6_bitCount_0f7a4_40 rfl hl (by decide) rfl (fun ls hl => ?_)
  refine lv_iload_n hx hb dJ6_bitCount_0f7a4_41 rfl (lv_at hl 0 rfl) ?_
  refine lv_iload_n hx hb dJ6_bitCount_0f7a4_42 rfl (lv_at hl 0 rfl) ?_
  refine lv_bipush (v := 16) hx hb dJ6_bitCount_0f7a4_43 (by decide) ?_
  refine lv_iushr hx hb dJ6_bitCount_0f7a4_45 rfl ?_
  refine lv_iadd hx hb dJ6_bitCount_0f7a4_46 ?_
  refine lv_topi (fun x_5 ex_5 => ?_)
  refine lv_istore_n (lv' := [(0, .int x_5)]) hx hb dJ6_bitCount_0f7a4_47 rfl hl (by decide) rfl (fun ls hl => ?_)
  refine lv_iload_n hx hb dJ6_bitCount_0f7a4_48 rfl (lv_at hl 0 rfl) ?_
  refine lv_bipush (v := 63) hx hb dJ6_bitCount_0f7a4_49 (by decide) ?_
  refine lv_iand hx hb dJ6_bitCount_0f7a4_51 ?_
  exact ro_iret hx hb hr hlk dJ6_bitCount_0f7a4_52 (by subst ex_1 ex_2 ex_3 ex_4 ex_5; rfl)
set_option maxHeartbeats 4000000 in
set_option maxRecDepth 100000 in
theorem c_X3_sizeOrBits (l : Launch) (G : lzG) (set what : Int32)  : Met l yX3_sizeOrBits wsX3_sizeOrBits ({ frames := 1, cells := 0, slots := 0, locals := 20 }) (va_Pc [.int set, .int what] (roP G ([] : va_W))) (vp_Si (fun r => r = sizeB set what)) 0 0 (fun _ => False) := by
  refine ro_start (cc := cX3_sizeOrBits) (maxL := 2) (ret := (some .int)) (by decide) rfl (Nat.le_of_ble_eq_true rfl) ?_
  intro pp ee ss mm bl me cd hx hb hr hlk hml hts hown hP hK ls hl
  have hown : ss.vm.findClass RX3 = some mm.cls := hown
  have hw1 := hts (.constant RX3 66 (-1000000)) (List.mem_of_getElem? (i := 1) rfl)
  have hl : lv_has ls 2 [(0, .int set), (1, .int what)] := hl
  refine lv_iload_n hx hb dX3_sizeOrBits_0 rfl (lv_at hl 1 rfl) ?_
  refine lv_if_ne (tgt := 17) hx hb dX3_sizeOrBits_1 (by decide) (fun c_1 => ?_) (fun c_1 => ?_)
  · skip
    refine lv_iload_n hx hb dX3_sizeOrBits_17 rfl (lv_at hl 0 rfl) ?_
    exact ro_iret hx hb hr hlk dX3_sizeOrBits_18 (by unfold sizeB; simp [c_1])
  · skip
    refine lv_iload_n hx hb dX3_sizeOrBits_4 rfl (lv_at hl 0 rfl) ?_
    refine lv_ldc hx hb hown hw1 dX3_sizeOrBits_5 ?_
    refine lv_icmp_eq (tgt := 17) hx hb dX3_sizeOrBits_7 (by decide) (fun c_7 => ?_) (fun c_7 => ?_)
    · skip
      refine lv_iload_n hx hb dX3_sizeOrBits_17 rfl (lv_at hl 0 rfl) ?_
      exact ro_iret hx hb hr hlk dX3_sizeOrBits_18 (by unfold sizeB; simp [c_1, c_7])
    · skip
      refine lv_iload_n hx hb dX3_sizeOrBits_10 rfl (lv_at hl 0 rfl) ?_
      refine ro_calli (va_runS (As := [.int set]) (rest := []) ⟨hx, hb, hml, hown, hts⟩ (c_J6_bitCount_0f7a4 l G set ) (va_cwS 1 hts gX3_sizeOrBits_J6_bitCount_0f7a4 rfl rfl rfl (by decide +kernel) ⟨Nat.le_of_ble_eq_true rfl, Nat.le_of_ble_eq_true rfl⟩) (ro_pre hK (fun k q h => by simp at h)) rfl rfl hl.1 rfl (lv_room (Nat.le_of_ble_eq_true rfl)) dX3_sizeOrBits_11 ⟨Nat.zero_le _, Nat.zero_le _⟩) (fun r_1 hr_1 => ?_)
      refine lz_top (y := bcI set) hr_1 ?_
      refine lv_goto (tgt := 18) hx hb dX3_sizeOrBits_14 (by decide) ?_
      exact ro_iret hx hb hr hlk dX3_sizeOrBits_18 (by unfold sizeB; simp [c_1, c_7])
set_option maxHeartbeats 4000000 in
set_option maxRecDepth 100000 in
theorem c_X1_lampBits (l : Launch) (G : lzG) (h : Nat) (q : Nat → Nat) (S : Nat → Int32) (F : Nat → Nat → Int32) (N : Nat) (hN : S 2 = nI N) (hN8 : N ≤ 8) : Met l yX1_lampBits wsX1_lampBits ({ frames := 0, cells := 0, slots := 0, locals := 0 }) (va_Pc [.ref h] (roP G (lzDoor G h q S F))) (vp_Si (fun r => r = bitsI (lampD S F) N)) 0 0 (fun _ => False) := by
  refine ro_start (cc := cX1_lampBits) (maxL := 4) (ret := (some .int)) (by decide) rfl (Nat.le_of_ble_eq_true rfl) ?_
  intro pp ee ss mm bl me cd hx hb hr hlk hml hts hown hP hK ls hl
  have hown : ss.vm.findClass RX1 = some mm.cls := hown
  have hw1 := hts (.fieldLink RX1 18 "LampSquares$Door" "squares" "I") (List.mem_of_getElem? (i := 1) rfl)
  have hw2 := hts (.fieldLink RX1 37 "LampSquares$Door" "settledAs" "[I") (List.mem_of_getElem? (i := 2) rfl)
  have hw3 := hts (.constant RX1 61 (-1000000)) (List.mem_of_getElem? (i := 3) rfl)
  have hw4 := hts (.fieldLink RX1 28 "LampSquares$Door" "shareOf" "[I") (List.mem_of_getElem? (i := 4) rfl)
  have hw5 := hts (.fieldLink RX1 9 "LampSquares$Door" "edge" "I") (List.mem_of_getElem? (i := 5) rfl)
  have hu_wsX10 : ∀ w ∈ wsX10, w.before ([.ref h] : List Value).toArray ss = true := fun w h9 => hts w (List.mem_cons_of_mem _ (List.mem_append_right _ h9))
  have hl : lv_has ls 4 [(0, .ref h)] := hl
  refine lv_iconst (v := 0) hx hb dX1_lampBits_0 (by decide) ?_
  refine lv_istore_n (lv' := [(1, .int 0), (0, .ref h)]) hx hb dX1_lampBits_1 rfl hl (by decide) rfl (fun ls hl => ?_)
  refine lv_iconst (v := 0) hx hb dX1_lampBits_2 (by decide) ?_
  refine lv_istore_n (lv' := [(2, .int 0), (1, .int 0), (0, .ref h)]) hx hb dX1_lampBits_3 rfl hl (by decide) rfl (fun ls hl => ?_)
  have J_4 : ∀ (n9 : Nat), ∀ (k : Nat), (k ≤ N) → N - k < n9 → ∀ ls : Array Slot, lv_has ls 4 [(1, .int (bitsI (lampD S F) k)), (2, .int (nI k)), (0, .ref h)] → W pp l ee ({ frames := 0, cells := 0, slots := 0, locals := 0 }) ss mm ([.ref h] : List Value).toArray bl me cd ss.heap [] 0 0 (MQ bl (vp_Si (fun r => r = bitsI (lampD S F) N)) ([.ref h] : List Value).toArray ss 0 0 (fun _ => False)) (F0 mm 4 ls []) := by
    intro n9
    induction n9 with
    | zero => intro k hk hn; exact absurd hn (Nat.not_lt_zero _)
    | succ n9 ih_4 =>
      intro k hk hn_4 ls hl
      refine lv_iload_n hx hb dX1_lampBits_4 rfl (lv_at hl 1 rfl) ?_
      refine lv_aload_n hx hb dX1_lampBits_5 rfl (lv_at hl 2 rfl) ?_
      refine lz_get (G := G) (ci := 1) (v := .int (S 2)) (C := RX1) (T := TX1) (N := 14) hx hb hu_wsX10 (fun _ h9 => h9) hown hK hP 0 rfl rfl 2 (by decide) hw1 rfl rfl dX1_lampBits_6 ?_
      refine lv_icmp_ge (tgt := 71) hx hb dX1_lampBits_9 (by decide) (fun c_9 => ?_) (fun c_9 => ?_)
      · skip
        have c_9' := Int32.not_lt.mpr c_9
        have hk2 : N ≤ k := lz_ge hN c_9 (by omega) (by omega)
        obtain rfl : k = N := by omega
        refine lv_iload_n hx hb dX1_lampBits_71 rfl (lv_at hl 0 rfl) ?_
        exact ro_iret hx hb hr hlk dX1_lampBits_72 (rfl)
      · skip
        have c_9' := Int32.not_le.mp c_9
        have hk2 : k < N := lz_lt hN c_9 (by omega) (by omega)
        refine lv_aload_n hx hb dX1_lampBits_12 rfl (lv_at hl 2 rfl) ?_
        refine lz_get (G := G) (ci := 1) (v := .ref (q 8)) (C := RX1) (T := TX1) (N := 14) hx hb hu_wsX10 (fun _ h9 => h9) hown hK hP 0 rfl rfl 8 (by decide) hw2 rfl rfl dX1_lampBits_13 ?_
        refine lv_iload_n hx hb dX1_lampBits_16 rfl (lv_at hl 1 rfl) ?_
        refine lz_iald (f := F 8) hx hb hK hP 5 rfl k (by omega) (Nat.le_of_ble_eq_true rfl) dX1_lampBits_17 ?_
        refine lv_ldc hx hb hown hw3 dX1_lampBits_18 ?_
        refine lv_icmp_eq (tgt := 27) hx hb dX1_lampBits_20 (by decide) (fun c_20 => ?_) (fun c_20 => ?_)
        · skip
          refine lv_iconst (v := 0) hx hb dX1_lampBits_27 (by decide) ?_
          refine lv_istore_n (lv' := [(3, .int 0), (1, .int (bitsI (lampD S F) k)), (2, .int (nI k)), (0, .ref h)]) hx hb dX1_lampBits_28 rfl hl (by decide) rfl (fun ls hl => ?_)
          refine lv_iload_n hx hb dX1_lampBits_29 rfl (lv_at hl 0 rfl) ?_
          refine lv_if_eq (tgt := 46) hx hb dX1_lampBits_30 (by decide) (fun c_30 => ?_) (fun c_30 => ?_)
          · skip
            refine lv_aload_n hx hb dX1_lampBits_46 rfl (lv_at hl 3 rfl) ?_
            refine lz_get (G := G) (ci := 1) (v := .ref (q 5)) (C := RX1) (T := TX1) (N := 14) hx hb hu_wsX10 (fun _ h9 => h9) hown hK hP 0 rfl rfl 5 (by decide) hw4 rfl rfl dX1_lampBits_47 ?_
            refine lv_iload_n hx hb dX1_lampBits_50 rfl (lv_at hl 2 rfl) ?_
            refine lz_iald (f := F 5) hx hb hK hP 2 rfl k (by omega) (Nat.le_of_ble_eq_true rfl) dX1_lampBits_51 ?_
            refine lv_aload_n hx hb dX1_lampBits_52 rfl (lv_at hl 3 rfl) ?_
            refine lz_get (G := G) (ci := 1) (v := .int (S 0)) (C := RX1) (T := TX1) (N := 14) hx hb hu_wsX10 (fun _ h9 => h9) hown hK hP 0 rfl rfl 0 (by decide) hw5 rfl rfl dX1_lampBits_53 ?_
            refine lv_icmp_lt (tgt := 65) hx hb dX1_lampBits_56 (by decide) (fun c_56 => ?_) (fun c_56 => ?_)
            · skip
              have c_56' := Int32.not_le.mpr c_56
              refine lv_iinc (v := nI (k + 1)) (lv' := [(2, .int (nI (k + 1))), (3, .int 0), (1, .int (bitsI (lampD S F) k)), (0, .ref h)]) hx hb dX1_lampBits_65 hl (k := 2) rfl (nI_1 _) (by decide) rfl (fun ls hl => ?_)
              refine lv_goto (tgt := 4) hx hb dX1_lampBits_68 (by decide) ?_
              rw [show (bitsI (lampD S F) k : Int32) = bitsI (lampD S F) (k + 1) from by simp [bitsI, lampD, c_9, c_9', c_20, c_56, c_56']] at hl
              exact ih_4 (k + 1) (by omega) (by omega) _ (lv_sub hl [2, 0, 3] rfl)
            · skip
              have c_56' := Int32.not_lt.mp c_56
              refine lv_iload_n hx hb dX1_lampBits_59 rfl (lv_at hl 1 rfl) ?_
              refine lv_iconst (v := 1) hx hb dX1_lampBits_60 (by decide) ?_
              refine lv_iload_n hx hb dX1_lampBits_61 rfl (lv_at hl 2 rfl) ?_
              refine lv_ishl hx hb dX1_lampBits_62 ?_
              refine lv_ior hx hb dX1_lampBits_63 ?_
              refine lv_topi (fun x_1 ex_1 => ?_)
              refine lv_istore_n (lv' := [(1, .int x_1), (3, .int 0), (2, .int (nI k)), (0, .ref h)]) hx hb dX1_lampBits_64 rfl hl (by decide) rfl (fun ls hl => ?_)
              refine lv_iinc (v := nI (k + 1)) (lv' := [(2, .int (nI (k + 1))), (1, .int x_1), (3, .int 0), (0, .ref h)]) hx hb dX1_lampBits_65 hl (k := 2) rfl (nI_1 _) (by decide) rfl (fun ls hl => ?_)
              refine lv_goto (tgt := 4) hx hb dX1_lampBits_68 (by decide) ?_
              obtain rfl : x_1 = bitsI (lampD S F) (k + 1) := by rw [ex_1]; simp [bitsI, lampD, c_9, c_9', c_20, c_56, c_56']
              exact ih_4 (k + 1) (by omega) (by omega) _ (lv_sub hl [1, 0, 3] rfl)
          · skip
            exact False.elim (by revert c_30; decide)
        · skip
          refine lv_iconst (v := 1) hx hb dX1_lampBits_23 (by decide) ?_
          refine lv_goto (tgt := 28) hx hb dX1_lampBits_24 (by decide) ?_
          refine lv_istore_n (lv' := [(3, .int 1), (1, .int (bitsI (lampD S F) k)), (2, .int (nI k)), (0, .ref h)]) hx hb dX1_lampBits_28 rfl hl (by decide) rfl (fun ls hl => ?_)
          refine lv_iload_n hx hb dX1_lampBits_29 rfl (lv_at hl 0 rfl) ?_
          refine lv_if_eq (tgt := 46) hx hb dX1_lampBits_30 (by decide) (fun c_30 => ?_) (fun c_30 => ?_)
          · skip
            exact False.elim (by revert c_30; decide)
          · skip
            refine lv_aload_n hx hb dX1_lampBits_33 rfl (lv_at hl 3 rfl) ?_
            refine lz_get (G := G) (ci := 1) (v := .ref (q 8)) (C := RX1) (T := TX1) (N := 14) hx hb hu_wsX10 (fun _ h9 => h9) hown hK hP 0 rfl rfl 8 (by decide) hw2 rfl rfl dX1_lampBits_34 ?_
            refine lv_iload_n hx hb dX1_lampBits_37 rfl (lv_at hl 2 rfl) ?_
            refine lz_iald (f := F 8) hx hb hK hP 5 rfl k (by omega) (Nat.le_of_ble_eq_true rfl) dX1_lampBits_38 ?_
            refine lv_iconst (v := 1) hx hb dX1_lampBits_39 (by decide) ?_
            refine lv_icmp_ne (tgt := 65) hx hb dX1_lampBits_40 (by decide) (fun c_40 => ?_) (fun c_40 => ?_)
            · skip
              refine lv_iinc (v := nI (k + 1)) (lv' := [(2, .int (nI (k + 1))), (3, .int 1), (1, .int (bitsI (lampD S F) k)), (0, .ref h)]) hx hb dX1_lampBits_65 hl (k := 2) rfl (nI_1 _) (by decide) rfl (fun ls hl => ?_)
              refine lv_goto (tgt := 4) hx hb dX1_lampBits_68 (by decide) ?_
              rw [show (bitsI (lampD S F) k : Int32) = bitsI (lampD S F) (k + 1) from by simp [bitsI, lampD, c_9, c_9', c_20, c_40]] at hl
              exact ih_4 (k + 1) (by omega) (by omega) _ (lv_sub hl [2, 0, 3] rfl)
            · skip
              refine lv_goto (tgt := 59) hx hb dX1_lampBits_43 (by decide) ?_
              refine lv_iload_n hx hb dX1_lampBits_59 rfl (lv_at hl 1 rfl) ?_
              refine lv_iconst (v := 1) hx hb dX1_lampBits_60 (by decide) ?_
              refine lv_iload_n hx hb dX1_lampBits_61 rfl (lv_at hl 2 rfl) ?_
              refine lv_ishl hx hb dX1_lampBits_62 ?_
              refine lv_ior hx hb dX1_lampBits_63 ?_
              refine lv_topi (fun x_2 ex_2 => ?_)
              refine lv_istore_n (lv' := [(1, .int x_2), (3, .int 1), (2, .int (nI k)), (0, .ref h)]) hx hb dX1_lampBits_64 rfl hl (by decide) rfl (fun ls hl => ?_)
              refine lv_iinc (v := nI (k + 1)) (lv' := [(2, .int (nI (k + 1))), (1, .int x_2), (3, .int 1), (0, .ref h)]) hx hb dX1_lampBits_65 hl (k := 2) rfl (nI_1 _) (by decide) rfl (fun ls hl => ?_)
              refine lv_goto (tgt := 4) hx hb dX1_lampBits_68 (by decide) ?_
              obtain rfl : x_2 = bitsI (lampD S F) (k + 1) := by rw [ex_2]; simp [bitsI, lampD, c_9, c_9', c_20, c_40]
              exact ih_4 (k + 1) (by omega) (by omega) _ (lv_sub hl [1, 0, 3] rfl)
  exact J_4 _ 0 (by omega) (Nat.lt_succ_self _) _ (lv_sub hl [1, 0, 2] rfl)
set_option maxHeartbeats 4000000 in
set_option maxRecDepth 100000 in
theorem c_X1_clickBits (l : Launch) (G : lzG) (h : Nat) (q : Nat → Nat) (S : Nat → Int32) (F : Nat → Nat → Int32) (v N : Nat) (hv : v < 5) (hN : S 2 = nI N) (hN8 : N ≤ 8) : Met l yX1_clickBits wsX1_clickBits ({ frames := 2, cells := 0, slots := 0, locals := 46 }) (va_Pc [.ref h, .int (nI v)] (roP G (lzDoor G h q S F))) (vp_Si (fun r => r = bitsI (clkD F v) N)) 0 0 (fun _ => False) := by
  refine ro_start (cc := cX1_clickBits) (maxL := 4) (ret := (some .int)) (by decide) rfl (Nat.le_of_ble_eq_true rfl) ?_
  intro pp ee ss mm bl me cd hx hb hr hlk hml hts hown hP hK ls hl
  have hown : ss.vm.findClass RX1 = some mm.cls := hown
  have hw1 := hts (.fieldLink RX1 18 "LampSquares$Door" "squares" "I") (List.mem_of_getElem? (i := 1) rfl)
  have hw2 := hts (.fieldLink RX1 40 "LampSquares$Door" "careOf" "[I") (List.mem_of_getElem? (i := 2) rfl)
  have hw3 := hts (.fieldLink RX1 43 "LampSquares$Door" "earOf" "[I") (List.mem_of_getElem? (i := 3) rfl)
  have hw4 := hts (.fieldLink RX1 24 "LampSquares$Door" "kindOf" "[I") (List.mem_of_getElem? (i := 4) rfl)
  have hw5 := hts (.fieldLink RX1 28 "LampSquares$Door" "shareOf" "[I") (List.mem_of_getElem? (i := 5) rfl)
  have hw6 := hts (.static yX3_isClickedBy) (List.mem_of_getElem? (i := 6) rfl)
  have hw7 := hts (.initialized RX3) (List.mem_of_getElem? (i := 7) rfl)
  have hu_wsX10 : ∀ w ∈ wsX10, w.before ([.ref h, .int (nI v)] : List Value).toArray ss = true := fun w h9 => hts w (List.mem_cons_of_mem _ (List.mem_append_right _ h9))
  have hl : lv_has ls 4 [(0, .ref h), (1, .int (nI v))] := hl
  refine lv_iconst (v := 0) hx hb dX1_clickBits_0 (by decide) ?_
  refine lv_istore_n (lv' := [(2, .int 0), (0, .ref h), (1, .int (nI v))]) hx hb dX1_clickBits_1 rfl hl (by decide) rfl (fun ls hl => ?_)
  refine lv_iconst (v := 0) hx hb dX1_clickBits_2 (by decide) ?_
  refine lv_istore_n (lv' := [(3, .int 0), (2, .int 0), (0, .ref h), (1, .int (nI v))]) hx hb dX1_clickBits_3 rfl hl (by decide) rfl (fun ls hl => ?_)
  have J_4 : ∀ (n9 : Nat), ∀ (k : Nat), (k ≤ N) → N - k < n9 → ∀ ls : Array Slot, lv_has ls 4 [(2, .int (bitsI (clkD F v) k)), (3, .int (nI k)), (0, .ref h), (1, .int (nI v))] → W pp l ee ({ frames := 2, cells := 0, slots := 0, locals := 46 }) ss mm ([.ref h, .int (nI v)] : List Value).toArray bl me cd ss.heap [] 0 0 (MQ bl (vp_Si (fun r => r = bitsI (clkD F v) N)) ([.ref h, .int (nI v)] : List Value).toArray ss 0 0 (fun _ => False)) (F0 mm 4 ls []) := by
    intro n9
    induction n9 with
    | zero => intro k hk hn; exact absurd hn (Nat.not_lt_zero _)
    | succ n9 ih_4 =>
      intro k hk hn_4 ls hl
      refine lv_iload_n hx hb dX1_clickBits_4 rfl (lv_at hl 1 rfl) ?_
      refine lv_aload_n hx hb dX1_clickBits_5 rfl (lv_at hl 2 rfl) ?_
      refine lz_get (G := G) (ci := 1) (v := .int (S 2)) (C := RX1) (T := TX1) (N := 14) hx hb hu_wsX10 (fun _ h9 => h9) hown hK hP 0 rfl rfl 2 (by decide) hw1 rfl rfl dX1_clickBits_6 ?_
      refine lv_icmp_ge (tgt := 54) hx hb dX1_clickBits_9 (by decide) (fun c_9 => ?_) (fun c_9 => ?_)
      · skip
        have c_9' := Int32.not_lt.mpr c_9
        have hk2 : N ≤ k := lz_ge hN c_9 (by omega) (by omega)
        obtain rfl : k = N := by omega
        refine lv_iload_n hx hb dX1_clickBits_54 rfl (lv_at hl 0 rfl) ?_
        exact ro_iret hx hb hr hlk dX1_clickBits_55 (rfl)
      · skip
        have c_9' := Int32.not_le.mp c_9
        have hk2 : k < N := lz_lt hN c_9 (by omega) (by omega)
        refine lv_aload_n hx hb dX1_clickBits_12 rfl (lv_at hl 2 rfl) ?_
        refine lz_get (G := G) (ci := 1) (v := .ref (q 9)) (C := RX1) (T := TX1) (N := 14) hx hb hu_wsX10 (fun _ h9 => h9) hown hK hP 0 rfl rfl 9 (by decide) hw2 rfl rfl dX1_clickBits_13 ?_
        refine lv_iload_n hx hb dX1_clickBits_16 rfl (lv_at hl 3 rfl) ?_
        refine lz_iald (f := F 9) hx hb hK hP 6 rfl v (by omega) (Nat.le_of_ble_eq_true rfl) dX1_clickBits_17 ?_
        refine lv_aload_n hx hb dX1_clickBits_18 rfl (lv_at hl 2 rfl) ?_
        refine lz_get (G := G) (ci := 1) (v := .ref (q 10)) (C := RX1) (T := TX1) (N := 14) hx hb hu_wsX10 (fun _ h9 => h9) hown hK hP 0 rfl rfl 10 (by decide) hw3 rfl rfl dX1_clickBits_19 ?_
        refine lv_iload_n hx hb dX1_clickBits_22 rfl (lv_at hl 3 rfl) ?_
        refine lz_iald (f := F 10) hx hb hK hP 7 rfl v (by omega) (Nat.le_of_ble_eq_true rfl) dX1_clickBits_23 ?_
        refine lv_aload_n hx hb dX1_clickBits_24 rfl (lv_at hl 2 rfl) ?_
        refine lz_get (G := G) (ci := 1) (v := .ref (q 4)) (C := RX1) (T := TX1) (N := 14) hx hb hu_wsX10 (fun _ h9 => h9) hown hK hP 0 rfl rfl 4 (by decide) hw4 rfl rfl dX1_clickBits_25 ?_
        refine lv_iload_n hx hb dX1_clickBits_28 rfl (lv_at hl 1 rfl) ?_
        refine lz_iald (f := F 4) hx hb hK hP 1 rfl k (by omega) (Nat.le_of_ble_eq_true rfl) dX1_clickBits_29 ?_
        refine lv_aload_n hx hb dX1_clickBits_30 rfl (lv_at hl 2 rfl) ?_
        refine lz_get (G := G) (ci := 1) (v := .ref (q 5)) (C := RX1) (T := TX1) (N := 14) hx hb hu_wsX10 (fun _ h9 => h9) hown hK hP 0 rfl rfl 5 (by decide) hw5 rfl rfl dX1_clickBits_31 ?_
        refine lv_iload_n hx hb dX1_clickBits_34 rfl (lv_at hl 1 rfl) ?_
        refine lz_iald (f := F 5) hx hb hK hP 2 rfl k (by omega) (Nat.le_of_ble_eq_true rfl) dX1_clickBits_35 ?_
        refine ro_calli (va_runSN (As := [.int ((F 9) v), .int ((F 10) v), .int ((F 4) k), .int ((F 5) k)]) (rest := []) ⟨hx, hb, hml, hown, hts⟩ (c_X3_isClickedBy l G ((F 9) v) ((F 10) v) ((F 4) k) ((F 5) k) ) (⟨va_cnB (host := RX3) 4 hts gX1_clickBits_X3_isClickedBy_n84 rfl rfl rfl (hK.2 _ (List.mem_of_getElem? (i := 2) rfl)) hw7 (by decide +kernel) ⟨Nat.le_of_ble_eq_true rfl, Nat.le_of_ble_eq_true rfl⟩, hw6, trivial⟩) (ro_pre hK (fun k q h => by simp at h)) rfl rfl hl.1 rfl (lv_room (Nat.le_of_ble_eq_true rfl)) dX1_clickBits_36 ⟨Nat.zero_le _, Nat.zero_le _⟩) (fun r_1 hr_1 => ?_)
        refine lv_if_eq (tgt := 48) hx hb dX1_clickBits_39 (by decide) (fun c_39 => ?_) (fun c_39 => ?_)
        · skip
          have c_39 := b2_z hr_1 c_39
          refine lv_iinc (v := nI (k + 1)) (lv' := [(3, .int (nI (k + 1))), (2, .int (bitsI (clkD F v) k)), (0, .ref h), (1, .int (nI v))]) hx hb dX1_clickBits_48 hl (k := 1) rfl (nI_1 _) (by decide) rfl (fun ls hl => ?_)
          refine lv_goto (tgt := 4) hx hb dX1_clickBits_51 (by decide) ?_
          rw [show (bitsI (clkD F v) k : Int32) = bitsI (clkD F v) (k + 1) from by simp [bitsI, clkD, c_9, c_9', c_39]] at hl
          exact ih_4 (k + 1) (by omega) (by omega) _ (lv_sub hl [1, 0, 2, 3] rfl)
        · skip
          have c_39 := b2_n hr_1 c_39
          refine lv_iload_n hx hb dX1_clickBits_42 rfl (lv_at hl 0 rfl) ?_
          refine lv_iconst (v := 1) hx hb dX1_clickBits_43 (by decide) ?_
          refine lv_iload_n hx hb dX1_clickBits_44 rfl (lv_at hl 1 rfl) ?_
          refine lv_ishl hx hb dX1_clickBits_45 ?_
          refine lv_ior hx hb dX1_clickBits_46 ?_
          refine lv_topi (fun x_2 ex_2 => ?_)
          refine lv_istore_n (lv' := [(2, .int x_2), (3, .int (nI k)), (0, .ref h), (1, .int (nI v))]) hx hb dX1_clickBits_47 rfl hl (by decide) rfl (fun ls hl => ?_)
          refine lv_iinc (v := nI (k + 1)) (lv' := [(3, .int (nI (k + 1))), (2, .int x_2), (0, .ref h), (1, .int (nI v))]) hx hb dX1_clickBits_48 hl (k := 1) rfl (nI_1 _) (by decide) rfl (fun ls hl => ?_)
          refine lv_goto (tgt := 4) hx hb dX1_clickBits_51 (by decide) ?_
          obtain rfl : x_2 = bitsI (clkD F v) (k + 1) := by rw [ex_2]; simp [bitsI, clkD, c_9, c_9', c_39]
          exact ih_4 (k + 1) (by omega) (by omega) _ (lv_sub hl [1, 0, 2, 3] rfl)
  exact J_4 _ 0 (by omega) (Nat.lt_succ_self _) _ (lv_sub hl [1, 0, 2, 3] rfl)
set_option maxHeartbeats 4000000 in
set_option maxRecDepth 100000 in
theorem c_X1_wrongBits (l : Launch) (G : lzG) (h : Nat) (q : Nat → Nat) (S : Nat → Int32) (F : Nat → Nat → Int32) (v N : Nat) (hv : v < 5) (hN : S 2 = nI N) (hN8 : N ≤ 8) : Met l yX1_wrongBits wsX1_wrongBits ({ frames := 3, cells := 0, slots := 0, locals := 69 }) (va_Pc [.ref h, .int (nI v)] (roP G (lzDoor G h q S F))) (vp_Si (fun r => r = wrbD S F v N)) 0 0 (fun _ => False) := by
  refine ro_start (cc := cX1_wrongBits) (maxL := 2) (ret := (some .int)) (by decide) rfl (Nat.le_of_ble_eq_true rfl) ?_
  intro pp ee ss mm bl me cd hx hb hr hlk hml hts hown hP hK ls hl
  have hown : ss.vm.findClass RX1 = some mm.cls := hown
  have hl : lv_has ls 2 [(0, .ref h), (1, .int (nI v))] := hl
  refine lv_aload_n hx hb dX1_wrongBits_0 rfl (lv_at hl 0 rfl) ?_
  refine lv_iload_n hx hb dX1_wrongBits_1 rfl (lv_at hl 1 rfl) ?_
  refine ro_calli (va_runV (As := [.int (nI v)]) (rest := []) ⟨hx, hb, hml, hown, hts⟩ (c_X1_clickBits l G h q S F v N (hv) (hN) (hN8)) (cwV 1 hts gX1_wrongBits_X1_clickBits rfl rfl rfl (by decide +kernel) ⟨Nat.le_of_ble_eq_true rfl, Nat.le_of_ble_eq_true rfl⟩) (ro_preV hK hP hP (ci := 1) (q0 := 0) rfl rfl) rfl rfl hl.1 rfl (lv_room (Nat.le_of_ble_eq_true rfl)) dX1_wrongBits_2 ⟨Nat.zero_le _, Nat.zero_le _⟩) (fun r_1 hr_1 => ?_)
  refine lz_top (y := bitsI (clkD F v) N) hr_1 ?_
  refine lv_aload_n hx hb dX1_wrongBits_5 rfl (lv_at hl 0 rfl) ?_
  refine ro_calli (va_runV (As := []) (rest := [.int (bitsI (clkD F v) N)]) ⟨hx, hb, hml, hown, hts⟩ (c_X1_lampBits l G h q S F N (hN) (hN8)) (cwV 0 hts gX1_wrongBits_X1_lampBits rfl rfl rfl (by decide +kernel) ⟨Nat.le_of_ble_eq_true rfl, Nat.le_of_ble_eq_true rfl⟩) (ro_preV hK hP hP (ci := 1) (q0 := 0) rfl rfl) rfl rfl hl.1 rfl (lv_room (Nat.le_of_ble_eq_true rfl)) dX1_wrongBits_6 ⟨Nat.zero_le _, Nat.zero_le _⟩) (fun r_2 hr_2 => ?_)
  refine lz_top (y := bitsI (lampD S F) N) hr_2 ?_
  refine lv_ixor hx hb dX1_wrongBits_9 ?_
  refine lv_aload_n hx hb dX1_wrongBits_10 rfl (lv_at hl 0 rfl) ?_
  refine ro_calli (va_runV (As := []) (rest := [.int ((bitsI (clkD F v) N) ^^^ (bitsI (lampD S F) N))]) ⟨hx, hb, hml, hown, hts⟩ (c_X1_countedBits l G h q S F N (hN) (hN8)) (cwV 0 hts gX1_wrongBits_X1_countedBits rfl rfl rfl (by decide +kernel) ⟨Nat.le_of_ble_eq_true rfl, Nat.le_of_ble_eq_true rfl⟩) (ro_preV hK hP hP (ci := 1) (q0 := 0) rfl rfl) rfl rfl hl.1 rfl (lv_room (Nat.le_of_ble_eq_true rfl)) dX1_wrongBits_11 ⟨Nat.zero_le _, Nat.zero_le _⟩) (fun r_3 hr_3 => ?_)
  refine lz_top (y := bitsI (cntD F) N) hr_3 ?_
  refine lv_iand hx hb dX1_wrongBits_14 ?_
  exact ro_iret hx hb hr hlk dX1_wrongBits_15 (rfl)
set_option maxHeartbeats 4000000 in
set_option maxRecDepth 100000 in
theorem c_X1_timesWrong (l : Launch) (G : lzG) (h : Nat) (q : Nat → Nat) (S : Nat → Int32) (F : Nat → Nat → Int32) (v : Nat) (set : Int32) (N : Nat) (hv : v < 5) (hN : S 2 = nI N) (hN8 : N ≤ 8) : Met l yX1_timesWrong wsX1_timesWrong ({ frames := 4, cells := 0, slots := 0, locals := 90 }) (va_Pc [.ref h, .int (nI v), .int set] (roP G (lzDoor G h q S F))) (vp_Si (fun r => r = bcI (wrbD S F v N &&& set))) 0 0 (fun _ => False) := by
  refine ro_start (cc := cX1_timesWrong) (maxL := 3) (ret := (some .int)) (by decide) rfl (Nat.le_of_ble_eq_true rfl) ?_
  intro pp ee ss mm bl me cd hx hb hr hlk hml hts hown hP hK ls hl
  have hown : ss.vm.findClass RX1 = some mm.cls := hown
  have hl : lv_has ls 3 [(0, .ref h), (1, .int (nI v)), (2, .int set)] := hl
  refine lv_aload_n hx hb dX1_timesWrong_0 rfl (lv_at hl 0 rfl) ?_
  refine lv_iload_n hx hb dX1_timesWrong_1 rfl (lv_at hl 1 rfl) ?_
  refine ro_calli (va_runV (As := [.int (nI v)]) (rest := []) ⟨hx, hb, hml, hown, hts⟩ (c_X1_wrongBits l G h q S F v N (by omega) (hN) (hN8)) (cwV 1 hts gX1_timesWrong_X1_wrongBits rfl rfl rfl (by decide +kernel) ⟨Nat.le_of_ble_eq_true rfl, Nat.le_of_ble_eq_true rfl⟩) (ro_preV hK hP hP (ci := 1) (q0 := 0) rfl rfl) rfl rfl hl.1 rfl (lv_room (Nat.le_of_ble_eq_true rfl)) dX1_timesWrong_2 ⟨Nat.zero_le _, Nat.zero_le _⟩) (fun r_1 hr_1 => ?_)
  refine lz_top (y := wrbD S F v N) hr_1 ?_
  refine lv_iload_n hx hb dX1_timesWrong_5 rfl (lv_at hl 2 rfl) ?_
  refine lv_iand hx hb dX1_timesWrong_6 ?_
  refine ro_calli (va_runS (As := [.int ((wrbD S F v N) &&& set)]) (rest := []) ⟨hx, hb, hml, hown, hts⟩ (c_J6_bitCount_0f7a4 l G ((wrbD S F v N) &&& set) ) (va_cwS 1 hts gX1_timesWrong_J6_bitCount_0f7a4 rfl rfl rfl (by decide +kernel) ⟨Nat.le_of_ble_eq_true rfl, Nat.le_of_ble_eq_true rfl⟩) (ro_pre hK (fun k q h => by simp at h)) rfl rfl hl.1 rfl (lv_room (Nat.le_of_ble_eq_true rfl)) dX1_timesWrong_7 ⟨Nat.zero_le _, Nat.zero_le _⟩) (fun r_2 hr_2 => ?_)
  refine lz_top (y := bcI ((wrbD S F v N) &&& set)) hr_2 ?_
  exact ro_iret hx hb hr hlk dX1_timesWrong_10 (rfl)
set_option maxHeartbeats 4000000 in
set_option maxRecDepth 100000 in
theorem c_X1_howManyClick (l : Launch) (G : lzG) (h : Nat) (q : Nat → Nat) (S : Nat → Int32) (F : Nat → Nat → Int32) (s N M : Nat) (hN : S 2 = nI N) (hN8 : N ≤ 8) (hM : S 3 = nI M) (hM5 : M ≤ 5) : Met l yX1_howManyClick wsX1_howManyClick ({ frames := 3, cells := 0, slots := 0, locals := 69 }) (va_Pc [.ref h, .int (nI s)] (roP G (lzDoor G h q S F))) (vp_Si (fun r => r = sumI (fun v => bitsI (clkD F v) N >>> (nI s &&& 31) &&& 1) M)) 0 0 (fun _ => False) := by
  refine ro_start (cc := cX1_howManyClick) (maxL := 4) (ret := (some .int)) (by decide) rfl (Nat.le_of_ble_eq_true rfl) ?_
  intro pp ee ss mm bl me cd hx hb hr hlk hml hts hown hP hK ls hl
  have hown : ss.vm.findClass RX1 = some mm.cls := hown
  have hw1 := hts (.fieldLink RX1 21 "LampSquares$Door" "visitors" "I") (List.mem_of_getElem? (i := 1) rfl)
  have hu_wsX10 : ∀ w ∈ wsX10, w.before ([.ref h, .int (nI s)] : List Value).toArray ss = true := fun w h9 => hts w (List.mem_cons_of_mem _ (List.mem_append_right _ h9))
  have hl : lv_has ls 4 [(0, .ref h), (1, .int (nI s))] := hl
  refine lv_iconst (v := 0) hx hb dX1_howManyClick_0 (by decide) ?_
  refine lv_istore_n (lv' := [(2, .int 0), (0, .ref h), (1, .int (nI s))]) hx hb dX1_howManyClick_1 rfl hl (by decide) rfl (fun ls hl => ?_)
  refine lv_iconst (v := 0) hx hb dX1_howManyClick_2 (by decide) ?_
  refine lv_istore_n (lv' := [(3, .int 0), (2, .int 0), (0, .ref h), (1, .int (nI s))]) hx hb dX1_howManyClick_3 rfl hl (by decide) rfl (fun ls hl => ?_)
  have J_4 : ∀ (n9 : Nat), ∀ (k : Nat), (k ≤ M) → M - k < n9 → ∀ ls : Array Slot, lv_has ls 4 [(2, .int (sumI (fun v => bitsI (clkD F v) N >>> (nI s &&& 31) &&& 1) k)), (3, .int (nI k)), (0, .ref h), (1, .int (nI s))] → W pp l ee ({ frames := 3, cells := 0, slots := 0, locals := 69 }) ss mm ([.ref h, .int (nI s)] : List Value).toArray bl me cd ss.heap [] 0 0 (MQ bl (vp_Si (fun r => r = sumI (fun v => bitsI (clkD F v) N >>> (nI s &&& 31) &&& 1) M)) ([.ref h, .int (nI s)] : List Value).toArray ss 0 0 (fun _ => False)) (F0 mm 4 ls []) := by
    intro n9
    induction n9 with
    | zero => intro k hk hn; exact absurd hn (Nat.not_lt_zero _)
    | succ n9 ih_4 =>
      intro k hk hn_4 ls hl
      refine lv_iload_n hx hb dX1_howManyClick_4 rfl (lv_at hl 1 rfl) ?_
      refine lv_aload_n hx hb dX1_howManyClick_5 rfl (lv_at hl 2 rfl) ?_
      refine lz_get (G := G) (ci := 1) (v := .int (S 3)) (C := RX1) (T := TX1) (N := 14) hx hb hu_wsX10 (fun _ h9 => h9) hown hK hP 0 rfl rfl 3 (by decide) hw1 rfl rfl dX1_howManyClick_6 ?_
      refine lv_icmp_ge (tgt := 30) hx hb dX1_howManyClick_9 (by decide) (fun c_9 => ?_) (fun c_9 => ?_)
      · skip
        have c_9' := Int32.not_lt.mpr c_9
        have hk2 : M ≤ k := lz_ge hM c_9 (by omega) (by omega)
        obtain rfl : k = M := by omega
        refine lv_iload_n hx hb dX1_howManyClick_30 rfl (lv_at hl 0 rfl) ?_
        exact ro_iret hx hb hr hlk dX1_howManyClick_31 (rfl)
      · skip
        have c_9' := Int32.not_le.mp c_9
        have hk2 : k < M := lz_lt hM c_9 (by omega) (by omega)
        refine lv_iload_n hx hb dX1_howManyClick_12 rfl (lv_at hl 0 rfl) ?_
        refine lv_aload_n hx hb dX1_howManyClick_13 rfl (lv_at hl 2 rfl) ?_
        refine lv_iload_n hx hb dX1_howManyClick_14 rfl (lv_at hl 1 rfl) ?_
        refine ro_calli (va_runV (As := [.int (nI k)]) (rest := [.int (sumI (fun v => bitsI (clkD F v) N >>> (nI s &&& 31) &&& 1) k)]) ⟨hx, hb, hml, hown, hts⟩ (c_X1_clickBits l G h q S F k N (by omega) (hN) (hN8)) (cwV 1 hts gX1_howManyClick_X1_clickBits rfl rfl rfl (by decide +kernel) ⟨Nat.le_of_ble_eq_true rfl, Nat.le_of_ble_eq_true rfl⟩) (ro_preV hK hP hP (ci := 1) (q0 := 0) rfl rfl) rfl rfl hl.1 rfl (lv_room (Nat.le_of_ble_eq_true rfl)) dX1_howManyClick_15 ⟨Nat.zero_le _, Nat.zero_le _⟩) (fun r_1 hr_1 => ?_)
        refine lz_top (y := bitsI (clkD F k) N) hr_1 ?_
        refine lv_iload_n hx hb dX1_howManyClick_18 rfl (lv_at hl 3 rfl) ?_
        refine lv_ishr hx hb dX1_howManyClick_19 ?_
        refine lv_iconst (v := 1) hx hb dX1_howManyClick_20 (by decide) ?_
        refine lv_iand hx hb dX1_howManyClick_21 ?_
        refine lv_iadd hx hb dX1_howManyClick_22 ?_
        refine lv_topi (fun x_2 ex_2 => ?_)
        refine lv_istore_n (lv' := [(2, .int x_2), (3, .int (nI k)), (0, .ref h), (1, .int (nI s))]) hx hb dX1_howManyClick_23 rfl hl (by decide) rfl (fun ls hl => ?_)
        refine lv_iinc (v := nI (k + 1)) (lv' := [(3, .int (nI (k + 1))), (2, .int x_2), (0, .ref h), (1, .int (nI s))]) hx hb dX1_howManyClick_24 hl (k := 1) rfl (nI_1 _) (by decide) rfl (fun ls hl => ?_)
        refine lv_goto (tgt := 4) hx hb dX1_howManyClick_27 (by decide) ?_
        obtain rfl : x_2 = sumI (fun v => bitsI (clkD F v) N >>> (nI s &&& 31) &&& 1) (k + 1) := by rw [ex_2]; rfl
        exact ih_4 (k + 1) (by omega) (by omega) _ (lv_sub hl [1, 0, 2, 3] rfl)
  exact J_4 _ 0 (by omega) (Nat.lt_succ_self _) _ (lv_sub hl [1, 0, 2, 3] rfl)
set_option maxHeartbeats 4000000 in
set_option maxRecDepth 100000 in
theorem c_X1_allSquares (l : Launch) (G : lzG) (h : Nat) (q : Nat → Nat) (S : Nat → Int32) (F : Nat → Nat → Int32)  : Met l yX1_allSquares wsX1_allSquares ({ frames := 0, cells := 0, slots := 0, locals := 0 }) (va_Pc [.ref h] (roP G (lzDoor G h q S F))) (vp_Si (fun r => r = (1 <<< (S 2 &&& 31)) - 1)) 0 0 (fun _ => False) := by
  refine ro_start (cc := cX1_allSquares) (maxL := 1) (ret := (some .int)) (by decide) rfl (Nat.le_of_ble_eq_true rfl) ?_
  intro pp ee ss mm bl me cd hx hb hr hlk hml hts hown hP hK ls hl
  have hown : ss.vm.findClass RX1 = some mm.cls := hown
  have hw1 := hts (.fieldLink RX1 18 "LampSquares$Door" "squares" "I") (List.mem_of_getElem? (i := 1) rfl)
  have hu_wsX10 : ∀ w ∈ wsX10, w.before ([.ref h] : List Value).toArray ss = true := fun w h9 => hts w (List.mem_cons_of_mem _ (List.mem_append_right _ h9))
  have hl : lv_has ls 1 [(0, .ref h)] := hl
  refine lv_iconst (v := 1) hx hb dX1_allSquares_0 (by decide) ?_
  refine lv_aload_n hx hb dX1_allSquares_1 rfl (lv_at hl 0 rfl) ?_
  refine lz_get (G := G) (ci := 1) (v := .int (S 2)) (C := RX1) (T := TX1) (N := 14) hx hb hu_wsX10 (fun _ h9 => h9) hown hK hP 0 rfl rfl 2 (by decide) hw1 rfl rfl dX1_allSquares_2 ?_
  refine lv_ishl hx hb dX1_allSquares_5 ?_
  refine lv_iconst (v := 1) hx hb dX1_allSquares_6 (by decide) ?_
  refine lv_isub hx hb dX1_allSquares_7 ?_
  exact ro_iret hx hb hr hlk dX1_allSquares_8 (rfl)
set_option maxHeartbeats 4000000 in
set_option maxRecDepth 100000 in
theorem c_X1_areSquares (l : Launch) (G : lzG) (h : Nat) (q : Nat → Nat) (S : Nat → Int32) (F : Nat → Nat → Int32) (n : Int32)  : Met l yX1_areSquares wsX1_areSquares ({ frames := 1, cells := 0, slots := 0, locals := 22 }) (va_Pc [.ref h, .int n] (roP G (lzDoor G h q S F))) (vp_Si (fun r : Int32 => r = b2 (inR n 0 ((1 <<< (S 2 &&& 31)) - 1)))) 0 0 (fun _ => False) := by
  refine ro_start (cc := cX1_areSquares) (maxL := 2) (ret := (some .boolean)) (by decide) rfl (Nat.le_of_ble_eq_true rfl) ?_
  intro pp ee ss mm bl me cd hx hb hr hlk hml hts hown hP hK ls hl
  have hown : ss.vm.findClass RX1 = some mm.cls := hown
  have hw7 := hts (.static yX3_isIn) (List.mem_of_getElem? (i := 7) rfl)
  have hw8 := hts (.initialized RX3) (List.mem_of_getElem? (i := 8) rfl)
  have hl : lv_has ls 2 [(0, .ref h), (1, .int n)] := hl
  refine lv_iload_n hx hb dX1_areSquares_0 rfl (lv_at hl 1 rfl) ?_
  refine lv_iconst (v := 0) hx hb dX1_areSquares_1 (by decide) ?_
  refine lv_aload_n hx hb dX1_areSquares_2 rfl (lv_at hl 0 rfl) ?_
  refine ro_calli (va_runV (As := []) (rest := [.int 0, .int n]) ⟨hx, hb, hml, hown, hts⟩ (c_X1_allSquares l G h q S F ) (cwV 0 hts gX1_areSquares_X1_allSquares rfl rfl rfl (by decide +kernel) ⟨Nat.le_of_ble_eq_true rfl, Nat.le_of_ble_eq_true rfl⟩) (ro_preV hK hP hP (ci := 1) (q0 := 0) rfl rfl) rfl rfl hl.1 rfl (lv_room (Nat.le_of_ble_eq_true rfl)) dX1_areSquares_3 ⟨Nat.zero_le _, Nat.zero_le _⟩) (fun r_1 hr_1 => ?_)
  refine lz_top (y := (1 <<< ((S 2) &&& 31)) - 1) hr_1 ?_
  refine ro_calli (va_runSN (As := [.int n, .int 0, .int ((1 <<< ((S 2) &&& 31)) - 1)]) (rest := []) ⟨hx, hb, hml, hown, hts⟩ (c_X3_isIn l G n 0 ((1 <<< ((S 2) &&& 31)) - 1) ) (⟨va_cnB (host := RX3) 3 hts gX1_areSquares_X3_isIn_n68 rfl rfl rfl (hK.2 _ (List.mem_of_getElem? (i := 0) rfl)) hw8 (by decide +kernel) ⟨Nat.le_of_ble_eq_true rfl, Nat.le_of_ble_eq_true rfl⟩, hw7, trivial⟩) (ro_pre hK (fun k q h => by simp at h)) rfl rfl hl.1 rfl (lv_room (Nat.le_of_ble_eq_true rfl)) dX1_areSquares_6 ⟨Nat.zero_le _, Nat.zero_le _⟩) (fun r_2 hr_2 => ?_)
  exact ro_zret hx hb hr hlk dX1_areSquares_9 (by assumption)
set_option maxHeartbeats 4000000 in
set_option maxRecDepth 100000 in
theorem c_X1_areVisitors (l : Launch) (G : lzG) (h : Nat) (q : Nat → Nat) (S : Nat → Int32) (F : Nat → Nat → Int32) (n : Int32)  : Met l yX1_areVisitors wsX1_areVisitors ({ frames := 1, cells := 0, slots := 0, locals := 22 }) (va_Pc [.ref h, .int n] (roP G (lzDoor G h q S F))) (vp_Si (fun r : Int32 => r = b2 (inR n 0 ((1 <<< (S 3 &&& 31)) - 1)))) 0 0 (fun _ => False) := by
  refine ro_start (cc := cX1_areVisitors) (maxL := 2) (ret := (some .boolean)) (by decide) rfl (Nat.le_of_ble_eq_true rfl) ?_
  intro pp ee ss mm bl me cd hx hb hr hlk hml hts hown hP hK ls hl
  have hown : ss.vm.findClass RX1 = some mm.cls := hown
  have hw1 := hts (.fieldLink RX1 21 "LampSquares$Door" "visitors" "I") (List.mem_of_getElem? (i := 1) rfl)
  have hw2 := hts (.static yX3_isIn) (List.mem_of_getElem? (i := 2) rfl)
  have hw3 := hts (.initialized RX3) (List.mem_of_getElem? (i := 3) rfl)
  have hu_wsX10 : ∀ w ∈ wsX10, w.before ([.ref h, .int n] : List Value).toArray ss = true := fun w h9 => hts w (List.mem_cons_of_mem _ (List.mem_append_right _ h9))
  have hl : lv_has ls 2 [(0, .ref h), (1, .int n)] := hl
  refine lv_iload_n hx hb dX1_areVisitors_0 rfl (lv_at hl 1 rfl) ?_
  refine lv_iconst (v := 0) hx hb dX1_areVisitors_1 (by decide) ?_
  refine lv_iconst (v := 1) hx hb dX1_areVisitors_2 (by decide) ?_
  refine lv_aload_n hx hb dX1_areVisitors_3 rfl (lv_at hl 0 rfl) ?_
  refine lz_get (G := G) (ci := 1) (v := .int (S 3)) (C := RX1) (T := TX1) (N := 14) hx hb hu_wsX10 (fun _ h9 => h9) hown hK hP 0 rfl rfl 3 (by decide) hw1 rfl rfl dX1_areVisitors_4 ?_
  refine lv_ishl hx hb dX1_areVisitors_7 ?_
  refine lv_iconst (v := 1) hx hb dX1_areVisitors_8 (by decide) ?_
  refine lv_isub hx hb dX1_areVisitors_9 ?_
  refine ro_calli (va_runSN (As := [.int n, .int 0, .int ((1 <<< ((S 3) &&& 31)) - 1)]) (rest := []) ⟨hx, hb, hml, hown, hts⟩ (c_X3_isIn l G n 0 ((1 <<< ((S 3) &&& 31)) - 1) ) (⟨va_cnB (host := RX3) 3 hts gX1_areVisitors_X3_isIn_n68 rfl rfl rfl (hK.2 _ (List.mem_of_getElem? (i := 0) rfl)) hw3 (by decide +kernel) ⟨Nat.le_of_ble_eq_true rfl, Nat.le_of_ble_eq_true rfl⟩, hw2, trivial⟩) (ro_pre hK (fun k q h => by simp at h)) rfl rfl hl.1 rfl (lv_room (Nat.le_of_ble_eq_true rfl)) dX1_areVisitors_10 ⟨Nat.zero_le _, Nat.zero_le _⟩) (fun r_1 hr_1 => ?_)
  exact ro_zret hx hb hr hlk dX1_areVisitors_13 (by assumption)
set_option maxHeartbeats 4000000 in
set_option maxRecDepth 100000 in
theorem c_X1_isRead (l : Launch) (G : lzG) (h : Nat) (q : Nat → Nat) (S : Nat → Int32) (F : Nat → Nat → Int32)  : Met l yX1_isRead wsX1_isRead ({ frames := 0, cells := 0, slots := 0, locals := 0 }) (va_Pc [.ref h] (roP G (lzDoor G h q S F))) (vp_Si (fun r : Int32 => r = b2 (decide (0 < S 2) && decide (0 < S 3)))) 0 0 (fun _ => False) := by
  refine ro_start (cc := cX1_isRead) (maxL := 1) (ret := (some .boolean)) (by decide) rfl (Nat.le_of_ble_eq_true rfl) ?_
  intro pp ee ss mm bl me cd hx hb hr hlk hml hts hown hP hK ls hl
  have hown : ss.vm.findClass RX1 = some mm.cls := hown
  have hw1 := hts (.fieldLink RX1 18 "LampSquares$Door" "squares" "I") (List.mem_of_getElem? (i := 1) rfl)
  have hw2 := hts (.fieldLink RX1 21 "LampSquares$Door" "visitors" "I") (List.mem_of_getElem? (i := 2) rfl)
  have hu_wsX10 : ∀ w ∈ wsX10, w.before ([.ref h] : List Value).toArray ss = true := fun w h9 => hts w (List.mem_cons_of_mem _ (List.mem_append_right _ h9))
  have hl : lv_has ls 1 [(0, .ref h)] := hl
  refine lv_aload_n hx hb dX1_isRead_0 rfl (lv_at hl 0 rfl) ?_
  refine lz_get (G := G) (ci := 1) (v := .int (S 2)) (C := RX1) (T := TX1) (N := 14) hx hb hu_wsX10 (fun _ h9 => h9) hown hK hP 0 rfl rfl 2 (by decide) hw1 rfl rfl dX1_isRead_1 ?_
  refine lv_if_le (tgt := 18) hx hb dX1_isRead_4 (by decide) (fun c_4 => ?_) (fun c_4 => ?_)
  · skip
    have c_4' := Int32.not_lt.mpr c_4
    refine lv_iconst (v := 0) hx hb dX1_isRead_18 (by decide) ?_
    exact ro_zret hx hb hr hlk dX1_isRead_19 (by simp [b2, c_4, c_4', ← Int32.not_le])
  · skip
    have c_4' := Int32.not_le.mp c_4
    refine lv_aload_n hx hb dX1_isRead_7 rfl (lv_at hl 0 rfl) ?_
    refine lz_get (G := G) (ci := 1) (v := .int (S 3)) (C := RX1) (T := TX1) (N := 14) hx hb hu_wsX10 (fun _ h9 => h9) hown hK hP 0 rfl rfl 3 (by decide) hw2 rfl rfl dX1_isRead_8 ?_
    refine lv_if_le (tgt := 18) hx hb dX1_isRead_11 (by decide) (fun c_11 => ?_) (fun c_11 => ?_)
    · skip
      have c_11' := Int32.not_lt.mpr c_11
      refine lv_iconst (v := 0) hx hb dX1_isRead_18 (by decide) ?_
      exact ro_zret hx hb hr hlk dX1_isRead_19 (by simp [b2, c_4, c_4', c_11, c_11', ← Int32.not_le])
    · skip
      have c_11' := Int32.not_le.mp c_11
      refine lv_iconst (v := 1) hx hb dX1_isRead_14 (by decide) ?_
      refine lv_goto (tgt := 19) hx hb dX1_isRead_15 (by decide) ?_
      exact ro_zret hx hb hr hlk dX1_isRead_19 (by simp [b2, c_4, c_4', c_11, c_11', ← Int32.not_le])
set_option maxHeartbeats 4000000 in
set_option maxRecDepth 100000 in
theorem c_X1_allVotes (l : Launch) (G : lzG) (h : Nat) (q : Nat → Nat) (S : Nat → Int32) (F : Nat → Nat → Int32) (N : Nat) (hN : S 2 = nI N) (hN8 : N ≤ 8) : Met l yX1_allVotes wsX1_allVotes ({ frames := 0, cells := 0, slots := 0, locals := 0 }) (va_Pc [.ref h] (roP G (lzDoor G h q S F))) (vp_Si (fun r => r = sumI (fun s => F 6 s + F 7 s) N)) 0 0 (fun _ => False) := by
  refine ro_start (cc := cX1_allVotes) (maxL := 3) (ret := (some .int)) (by decide) rfl (Nat.le_of_ble_eq_true rfl) ?_
  intro pp ee ss mm bl me cd hx hb hr hlk hml hts hown hP hK ls hl
  have hown : ss.vm.findClass RX1 = some mm.cls := hown
  have hw1 := hts (.fieldLink RX1 18 "LampSquares$Door" "squares" "I") (List.mem_of_getElem? (i := 1) rfl)
  have hw2 := hts (.fieldLink RX1 31 "LampSquares$Door" "votesFor" "[I") (List.mem_of_getElem? (i := 2) rfl)
  have hw3 := hts (.fieldLink RX1 34 "LampSquares$Door" "votesAgainst" "[I") (List.mem_of_getElem? (i := 3) rfl)
  have hu_wsX10 : ∀ w ∈ wsX10, w.before ([.ref h] : List Value).toArray ss = true := fun w h9 => hts w (List.mem_cons_of_mem _ (List.mem_append_right _ h9))
  have hl : lv_has ls 3 [(0, .ref h)] := hl
  refine lv_iconst (v := 0) hx hb dX1_allVotes_0 (by decide) ?_
  refine lv_istore_n (lv' := [(1, .int 0), (0, .ref h)]) hx hb dX1_allVotes_1 rfl hl (by decide) rfl (fun ls hl => ?_)
  refine lv_iconst (v := 0) hx hb dX1_allVotes_2 (by decide) ?_
  refine lv_istore_n (lv' := [(2, .int 0), (1, .int 0), (0, .ref h)]) hx hb dX1_allVotes_3 rfl hl (by decide) rfl (fun ls hl => ?_)
  have J_4 : ∀ (n9 : Nat), ∀ (k : Nat), (k ≤ N) → N - k < n9 → ∀ ls : Array Slot, lv_has ls 3 [(1, .int (sumI (fun s => F 6 s + F 7 s) k)), (2, .int (nI k)), (0, .ref h)] → W pp l ee ({ frames := 0, cells := 0, slots := 0, locals := 0 }) ss mm ([.ref h] : List Value).toArray bl me cd ss.heap [] 0 0 (MQ bl (vp_Si (fun r => r = sumI (fun s => F 6 s + F 7 s) N)) ([.ref h] : List Value).toArray ss 0 0 (fun _ => False)) (F0 mm 4 ls []) := by
    intro n9
    induction n9 with
    | zero => intro k hk hn; exact absurd hn (Nat.not_lt_zero _)
    | succ n9 ih_4 =>
      intro k hk hn_4 ls hl
      refine lv_iload_n hx hb dX1_allVotes_4 rfl (lv_at hl 1 rfl) ?_
      refine lv_aload_n hx hb dX1_allVotes_5 rfl (lv_at hl 2 rfl) ?_
      refine lz_get (G := G) (ci := 1) (v := .int (S 2)) (C := RX1) (T := TX1) (N := 14) hx hb hu_wsX10 (fun _ h9 => h9) hown hK hP 0 rfl rfl 2 (by decide) hw1 rfl rfl dX1_allVotes_6 ?_
      refine lv_icmp_ge (tgt := 34) hx hb dX1_allVotes_9 (by decide) (fun c_9 => ?_) (fun c_9 => ?_)
      · skip
        have c_9' := Int32.not_lt.mpr c_9
        have hk2 : N ≤ k := lz_ge hN c_9 (by omega) (by omega)
        obtain rfl : k = N := by omega
        refine lv_iload_n hx hb dX1_allVotes_34 rfl (lv_at hl 0 rfl) ?_
        exact ro_iret hx hb hr hlk dX1_allVotes_35 (rfl)
      · skip
        have c_9' := Int32.not_le.mp c_9
        have hk2 : k < N := lz_lt hN c_9 (by omega) (by omega)
        refine lv_iload_n hx hb dX1_allVotes_12 rfl (lv_at hl 0 rfl) ?_
        refine lv_aload_n hx hb dX1_allVotes_13 rfl (lv_at hl 2 rfl) ?_
        refine lz_get (G := G) (ci := 1) (v := .ref (q 6)) (C := RX1) (T := TX1) (N := 14) hx hb hu_wsX10 (fun _ h9 => h9) hown hK hP 0 rfl rfl 6 (by decide) hw2 rfl rfl dX1_allVotes_14 ?_
        refine lv_iload_n hx hb dX1_allVotes_17 rfl (lv_at hl 1 rfl) ?_
        refine lz_iald (f := F 6) hx hb hK hP 3 rfl k (by omega) (Nat.le_of_ble_eq_true rfl) dX1_allVotes_18 ?_
        refine lv_aload_n hx hb dX1_allVotes_19 rfl (lv_at hl 2 rfl) ?_
        refine lz_get (G := G) (ci := 1) (v := .ref (q 7)) (C := RX1) (T := TX1) (N := 14) hx hb hu_wsX10 (fun _ h9 => h9) hown hK hP 0 rfl rfl 7 (by decide) hw3 rfl rfl dX1_allVotes_20 ?_
        refine lv_iload_n hx hb dX1_allVotes_23 rfl (lv_at hl 1 rfl) ?_
        refine lz_iald (f := F 7) hx hb hK hP 4 rfl k (by omega) (Nat.le_of_ble_eq_true rfl) dX1_allVotes_24 ?_
        refine lv_iadd hx hb dX1_allVotes_25 ?_
        refine lv_iadd hx hb dX1_allVotes_26 ?_
        refine lv_topi (fun x_1 ex_1 => ?_)
        refine lv_istore_n (lv' := [(1, .int x_1), (2, .int (nI k)), (0, .ref h)]) hx hb dX1_allVotes_27 rfl hl (by decide) rfl (fun ls hl => ?_)
        refine lv_iinc (v := nI (k + 1)) (lv' := [(2, .int (nI (k + 1))), (1, .int x_1), (0, .ref h)]) hx hb dX1_allVotes_28 hl (k := 1) rfl (nI_1 _) (by decide) rfl (fun ls hl => ?_)
        refine lv_goto (tgt := 4) hx hb dX1_allVotes_31 (by decide) ?_
        obtain rfl : x_1 = sumI (fun s => F 6 s + F 7 s) (k + 1) := by rw [ex_1]; rfl
        exact ih_4 (k + 1) (by omega) (by omega) _ (lv_sub hl [1, 0, 2] rfl)
  exact J_4 _ 0 (by omega) (Nat.lt_succ_self _) _ (lv_sub hl [1, 0, 2] rfl)
set_option maxHeartbeats 4000000 in
set_option maxRecDepth 100000 in
theorem c_X1_votesSayLamp (l : Launch) (G : lzG) (h : Nat) (q : Nat → Nat) (S : Nat → Int32) (F : Nat → Nat → Int32) (s : Nat) (hs : s < 8) : Met l yX1_votesSayLamp wsX1_votesSayLamp ({ frames := 0, cells := 0, slots := 0, locals := 0 }) (va_Pc [.ref h, .int (nI s)] (roP G (lzDoor G h q S F))) (vp_Si (fun r : Int32 => r = b2 (decide (F 7 s < F 6 s)))) 0 0 (fun _ => False) := by
  refine ro_start (cc := cX1_votesSayLamp) (maxL := 2) (ret := (some .boolean)) (by decide) rfl (Nat.le_of_ble_eq_true rfl) ?_
  intro pp ee ss mm bl me cd hx hb hr hlk hml hts hown hP hK ls hl
  have hown : ss.vm.findClass RX1 = some mm.cls := hown
  have hw1 := hts (.fieldLink RX1 31 "LampSquares$Door" "votesFor" "[I") (List.mem_of_getElem? (i := 1) rfl)
  have hw2 := hts (.fieldLink RX1 34 "LampSquares$Door" "votesAgainst" "[I") (List.mem_of_getElem? (i := 2) rfl)
  have hu_wsX10 : ∀ w ∈ wsX10, w.before ([.ref h, .int (nI s)] : List Value).toArray ss = true := fun w h9 => hts w (List.mem_cons_of_mem _ (List.mem_append_right _ h9))
  have hl : lv_has ls 2 [(0, .ref h), (1, .int (nI s))] := hl
  refine lv_aload_n hx hb dX1_votesSayLamp_0 rfl (lv_at hl 0 rfl) ?_
  refine lz_get (G := G) (ci := 1) (v := .ref (q 6)) (C := RX1) (T := TX1) (N := 14) hx hb hu_wsX10 (fun _ h9 => h9) hown hK hP 0 rfl rfl 6 (by decide) hw1 rfl rfl dX1_votesSayLamp_1 ?_
  refine lv_iload_n hx hb dX1_votesSayLamp_4 rfl (lv_at hl 1 rfl) ?_
  refine lz_iald (f := F 6) hx hb hK hP 3 rfl s (by omega) (Nat.le_of_ble_eq_true rfl) dX1_votesSayLamp_5 ?_
  refine lv_aload_n hx hb dX1_votesSayLamp_6 rfl (lv_at hl 0 rfl) ?_
  refine lz_get (G := G) (ci := 1) (v := .ref (q 7)) (C := RX1) (T := TX1) (N := 14) hx hb hu_wsX10 (fun _ h9 => h9) hown hK hP 0 rfl rfl 7 (by decide) hw2 rfl rfl dX1_votesSayLamp_7 ?_
  refine lv_iload_n hx hb dX1_votesSayLamp_10 rfl (lv_at hl 1 rfl) ?_
  refine lz_iald (f := F 7) hx hb hK hP 4 rfl s (by omega) (Nat.le_of_ble_eq_true rfl) dX1_votesSayLamp_11 ?_
  refine lv_icmp_le (tgt := 19) hx hb dX1_votesSayLamp_12 (by decide) (fun c_12 => ?_) (fun c_12 => ?_)
  · skip
    have c_12' := Int32.not_lt.mpr c_12
    refine lv_iconst (v := 0) hx hb dX1_votesSayLamp_19 (by decide) ?_
    exact ro_zret hx hb hr hlk dX1_votesSayLamp_20 (by simp [b2, c_12, c_12', ← Int32.not_le])
  · skip
    have c_12' := Int32.not_le.mp c_12
    refine lv_iconst (v := 1) hx hb dX1_votesSayLamp_15 (by decide) ?_
    refine lv_goto (tgt := 20) hx hb dX1_votesSayLamp_16 (by decide) ?_
    exact ro_zret hx hb hr hlk dX1_votesSayLamp_20 (by simp [b2, c_12, c_12', ← Int32.not_le])
set_option maxHeartbeats 4000000 in
set_option maxRecDepth 100000 in
theorem c_X1_notedGuests (l : Launch) (G : lzG) (h : Nat) (q : Nat → Nat) (S : Nat → Int32) (F : Nat → Nat → Int32) (set : Int32) (M : Nat) (hM : S 3 = nI M) (hM5 : M ≤ 5) : Met l yX1_notedGuests wsX1_notedGuests ({ frames := 1, cells := 0, slots := 0, locals := 20 }) (va_Pc [.ref h, .int set] (roP G (lzDoor G h q S F))) (vp_Si (fun r => r = bitsI (fun v => decide (bcI (F 13 v &&& set) ≤ S 1)) M)) 0 0 (fun _ => False) := by
  refine ro_start (cc := cX1_notedGuests) (maxL := 4) (ret := (some .int)) (by decide) rfl (Nat.le_of_ble_eq_true rfl) ?_
  intro pp ee ss mm bl me cd hx hb hr hlk hml hts hown hP hK ls hl
  have hown : ss.vm.findClass RX1 = some mm.cls := hown
  have hw1 := hts (.fieldLink RX1 21 "LampSquares$Door" "visitors" "I") (List.mem_of_getElem? (i := 1) rfl)
  have hw2 := hts (.fieldLink RX1 52 "LampSquares$Door" "noted" "[I") (List.mem_of_getElem? (i := 2) rfl)
  have hw3 := hts (.fieldLink RX1 15 "LampSquares$Door" "strict" "I") (List.mem_of_getElem? (i := 3) rfl)
  have hu_wsX10 : ∀ w ∈ wsX10, w.before ([.ref h, .int set] : List Value).toArray ss = true := fun w h9 => hts w (List.mem_cons_of_mem _ (List.mem_append_right _ h9))
  have hl : lv_has ls 4 [(0, .ref h), (1, .int set)] := hl
  refine lv_iconst (v := 0) hx hb dX1_notedGuests_0 (by decide) ?_
  refine lv_istore_n (lv' := [(2, .int 0), (0, .ref h), (1, .int set)]) hx hb dX1_notedGuests_1 rfl hl (by decide) rfl (fun ls hl => ?_)
  refine lv_iconst (v := 0) hx hb dX1_notedGuests_2 (by decide) ?_
  refine lv_istore_n (lv' := [(3, .int 0), (2, .int 0), (0, .ref h), (1, .int set)]) hx hb dX1_notedGuests_3 rfl hl (by decide) rfl (fun ls hl => ?_)
  have J_4 : ∀ (n9 : Nat), ∀ (k : Nat), (k ≤ M) → M - k < n9 → ∀ ls : Array Slot, lv_has ls 4 [(2, .int (bitsI (fun v => decide (bcI (F 13 v &&& set) ≤ S 1)) k)), (3, .int (nI k)), (0, .ref h), (1, .int set)] → W pp l ee ({ frames := 1, cells := 0, slots := 0, locals := 20 }) ss mm ([.ref h, .int set] : List Value).toArray bl me cd ss.heap [] 0 0 (MQ bl (vp_Si (fun r => r = bitsI (fun v => decide (bcI (F 13 v &&& set) ≤ S 1)) M)) ([.ref h, .int set] : List Value).toArray ss 0 0 (fun _ => False)) (F0 mm 4 ls []) := by
    intro n9
    induction n9 with
    | zero => intro k hk hn; exact absurd hn (Nat.not_lt_zero _)
    | succ n9 ih_4 =>
      intro k hk hn_4 ls hl
      refine lv_iload_n hx hb dX1_notedGuests_4 rfl (lv_at hl 1 rfl) ?_
      refine lv_aload_n hx hb dX1_notedGuests_5 rfl (lv_at hl 2 rfl) ?_
      refine lz_get (G := G) (ci := 1) (v := .int (S 3)) (C := RX1) (T := TX1) (N := 14) hx hb hu_wsX10 (fun _ h9 => h9) hown hK hP 0 rfl rfl 3 (by decide) hw1 rfl rfl dX1_notedGuests_6 ?_
      refine lv_icmp_ge (tgt := 42) hx hb dX1_notedGuests_9 (by decide) (fun c_9 => ?_) (fun c_9 => ?_)
      · skip
        have c_9' := Int32.not_lt.mpr c_9
        have hk2 : M ≤ k := lz_ge hM c_9 (by omega) (by omega)
        obtain rfl : k = M := by omega
        refine lv_iload_n hx hb dX1_notedGuests_42 rfl (lv_at hl 0 rfl) ?_
        exact ro_iret hx hb hr hlk dX1_notedGuests_43 (rfl)
      · skip
        have c_9' := Int32.not_le.mp c_9
        have hk2 : k < M := lz_lt hM c_9 (by omega) (by omega)
        refine lv_aload_n hx hb dX1_notedGuests_12 rfl (lv_at hl 2 rfl) ?_
        refine lz_get (G := G) (ci := 1) (v := .ref (q 13)) (C := RX1) (T := TX1) (N := 14) hx hb hu_wsX10 (fun _ h9 => h9) hown hK hP 0 rfl rfl 13 (by decide) hw2 rfl rfl dX1_notedGuests_13 ?_
        refine lv_iload_n hx hb dX1_notedGuests_16 rfl (lv_at hl 1 rfl) ?_
        refine lz_iald (f := F 13) hx hb hK hP 10 rfl k (by omega) (Nat.le_of_ble_eq_true rfl) dX1_notedGuests_17 ?_
        refine lv_iload_n hx hb dX1_notedGuests_18 rfl (lv_at hl 3 rfl) ?_
        refine lv_iand hx hb dX1_notedGuests_19 ?_
        refine ro_calli (va_runS (As := [.int (((F 13) k) &&& set)]) (rest := []) ⟨hx, hb, hml, hown, hts⟩ (c_J6_bitCount_0f7a4 l G (((F 13) k) &&& set) ) (va_cwS 1 hts gX1_notedGuests_J6_bitCount_0f7a4 rfl rfl rfl (by decide +kernel) ⟨Nat.le_of_ble_eq_true rfl, Nat.le_of_ble_eq_true rfl⟩) (ro_pre hK (fun k q h => by simp at h)) rfl rfl hl.1 rfl (lv_room (Nat.le_of_ble_eq_true rfl)) dX1_notedGuests_20 ⟨Nat.zero_le _, Nat.zero_le _⟩) (fun r_1 hr_1 => ?_)
        refine lz_top (y := bcI (((F 13) k) &&& set)) hr_1 ?_
        refine lv_aload_n hx hb dX1_notedGuests_23 rfl (lv_at hl 2 rfl) ?_
        refine lz_get (G := G) (ci := 1) (v := .int (S 1)) (C := RX1) (T := TX1) (N := 14) hx hb hu_wsX10 (fun _ h9 => h9) hown hK hP 0 rfl rfl 1 (by decide) hw3 rfl rfl dX1_notedGuests_24 ?_
        refine lv_icmp_gt (tgt := 36) hx hb dX1_notedGuests_27 (by decide) (fun c_27 => ?_) (fun c_27 => ?_)
        · skip
          have c_27' := Int32.not_le.mpr c_27
          refine lv_iinc (v := nI (k + 1)) (lv' := [(3, .int (nI (k + 1))), (2, .int (bitsI (fun v => decide (bcI (F 13 v &&& set) ≤ S 1)) k)), (0, .ref h), (1, .int set)]) hx hb dX1_notedGuests_36 hl (k := 1) rfl (nI_1 _) (by decide) rfl (fun ls hl => ?_)
          refine lv_goto (tgt := 4) hx hb dX1_notedGuests_39 (by decide) ?_
          rw [show (bitsI (fun v => decide (bcI (F 13 v &&& set) ≤ S 1)) k : Int32) = bitsI (fun v => decide (bcI (F 13 v &&& set) ≤ S 1)) (k + 1) from by simp [bitsI, c_9, c_9', c_27, c_27', ← Int32.not_lt]] at hl
          exact ih_4 (k + 1) (by omega) (by omega) _ (lv_sub hl [1, 0, 2, 3] rfl)
        · skip
          have c_27' := Int32.not_lt.mp c_27
          refine lv_iload_n hx hb dX1_notedGuests_30 rfl (lv_at hl 0 rfl) ?_
          refine lv_iconst (v := 1) hx hb dX1_notedGuests_31 (by decide) ?_
          refine lv_iload_n hx hb dX1_notedGuests_32 rfl (lv_at hl 1 rfl) ?_
          refine lv_ishl hx hb dX1_notedGuests_33 ?_
          refine lv_ior hx hb dX1_notedGuests_34 ?_
          refine lv_topi (fun x_2 ex_2 => ?_)
          refine lv_istore_n (lv' := [(2, .int x_2), (3, .int (nI k)), (0, .ref h), (1, .int set)]) hx hb dX1_notedGuests_35 rfl hl (by decide) rfl (fun ls hl => ?_)
          refine lv_iinc (v := nI (k + 1)) (lv' := [(3, .int (nI (k + 1))), (2, .int x_2), (0, .ref h), (1, .int set)]) hx hb dX1_notedGuests_36 hl (k := 1) rfl (nI_1 _) (by decide) rfl (fun ls hl => ?_)
          refine lv_goto (tgt := 4) hx hb dX1_notedGuests_39 (by decide) ?_
          obtain rfl : x_2 = bitsI (fun v => decide (bcI (F 13 v &&& set) ≤ S 1)) (k + 1) := by rw [ex_2]; simp [bitsI, c_9, c_9', c_27, c_27', ← Int32.not_lt]
          exact ih_4 (k + 1) (by omega) (by omega) _ (lv_sub hl [1, 0, 2, 3] rfl)
  exact J_4 _ 0 (by omega) (Nat.lt_succ_self _) _ (lv_sub hl [1, 0, 2, 3] rfl)
set_option maxHeartbeats 4000000 in
set_option maxRecDepth 100000 in
theorem c_X1_leastStrict (l : Launch) (G : lzG) (h : Nat) (q : Nat → Nat) (S : Nat → Int32) (F : Nat → Nat → Int32) (wanted set : Int32) (N M : Nat) (hN : S 2 = nI N) (hN8 : N ≤ 8) (hM : S 3 = nI M) (hM5 : M ≤ 5) : Met l yX1_leastStrict wsX1_leastStrict ({ frames := 5, cells := 0, slots := 0, locals := 112 }) (va_Pc [.ref h, .int wanted, .int set] (roP G (lzDoor G h q S F))) (vp_Si (fun r => r = maxI (fun v => hasI wanted v) (fun v => bcI (wrbD S F v N &&& set)) M)) 0 0 (fun _ => False) := by
  refine ro_start (cc := cX1_leastStrict) (maxL := 5) (ret := (some .int)) (by decide) rfl (Nat.le_of_ble_eq_true rfl) ?_
  intro pp ee ss mm bl me cd hx hb hr hlk hml hts hown hP hK ls hl
  have hown : ss.vm.findClass RX1 = some mm.cls := hown
  have hw1 := hts (.fieldLink RX1 21 "LampSquares$Door" "visitors" "I") (List.mem_of_getElem? (i := 1) rfl)
  have hw2 := hts (.methodLink RX1 125 Lib.Math.max.name) (List.mem_of_getElem? (i := 2) rfl)
  have hw3 := hts (.static Lib.Math.max.name) (List.mem_of_getElem? (i := 3) rfl)
  have hw4 := hts (.initialized "java/lang/Math") (List.mem_of_getElem? (i := 4) rfl)
  have hw5 := hts (.code Lib.Math.max.name Lib.Math.max.code 2 (some .int)) (List.mem_of_getElem? (i := 5) rfl)
  have hu_wsX10 : ∀ w ∈ wsX10, w.before ([.ref h, .int wanted, .int set] : List Value).toArray ss = true := fun w h9 => hts w (List.mem_cons_of_mem _ (List.mem_append_right _ h9))
  have hl : lv_has ls 5 [(0, .ref h), (1, .int wanted), (2, .int set)] := hl
  refine lv_iconst (v := 0) hx hb dX1_leastStrict_0 (by decide) ?_
  refine lv_istore_n (lv' := [(3, .int 0), (0, .ref h), (1, .int wanted), (2, .int set)]) hx hb dX1_leastStrict_1 rfl hl (by decide) rfl (fun ls hl => ?_)
  refine lv_iconst (v := 0) hx hb dX1_leastStrict_2 (by decide) ?_
  refine lv_istore (lv' := [(4, .int 0), (3, .int 0), (0, .ref h), (1, .int wanted), (2, .int set)]) hx hb dX1_leastStrict_3 hl (by decide) rfl (fun ls hl => ?_)
  have J_5 : ∀ (n9 : Nat), ∀ (k : Nat), (k ≤ M) → M - k < n9 → ∀ ls : Array Slot, lv_has ls 5 [(3, .int (maxI (fun v => hasI wanted v) (fun v => bcI (wrbD S F v N &&& set)) k)), (4, .int (nI k)), (0, .ref h), (1, .int wanted), (2, .int set)] → W pp l ee ({ frames := 5, cells := 0, slots := 0, locals := 112 }) ss mm ([.ref h, .int wanted, .int set] : List Value).toArray bl me cd ss.heap [] 0 0 (MQ bl (vp_Si (fun r => r = maxI (fun v => hasI wanted v) (fun v => bcI (wrbD S F v N &&& set)) M)) ([.ref h, .int wanted, .int set] : List Value).toArray ss 0 0 (fun _ => False)) (F0 mm 5 ls []) := by
    intro n9
    induction n9 with
    | zero => intro k hk hn; exact absurd hn (Nat.not_lt_zero _)
    | succ n9 ih_5 =>
      intro k hk hn_5 ls hl
      refine lv_iload hx hb dX1_leastStrict_5 (lv_at hl 1 rfl) ?_
      refine lv_aload_n hx hb dX1_leastStrict_7 rfl (lv_at hl 2 rfl) ?_
      refine lz_get (G := G) (ci := 1) (v := .int (S 3)) (C := RX1) (T := TX1) (N := 14) hx hb hu_wsX10 (fun _ h9 => h9) hown hK hP 0 rfl rfl 3 (by decide) hw1 rfl rfl dX1_leastStrict_8 ?_
      refine lv_icmp_ge (tgt := 42) hx hb dX1_leastStrict_11 (by decide) (fun c_11 => ?_) (fun c_11 => ?_)
      · skip
        have c_11' := Int32.not_lt.mpr c_11
        have hk2 : M ≤ k := lz_ge hM c_11 (by omega) (by omega)
        obtain rfl : k = M := by omega
        refine lv_iload_n hx hb dX1_leastStrict_42 rfl (lv_at hl 0 rfl) ?_
        exact ro_iret hx hb hr hlk dX1_leastStrict_43 (rfl)
      · skip
        have c_11' := Int32.not_le.mp c_11
        have hk2 : k < M := lz_lt hM c_11 (by omega) (by omega)
        refine lv_iload_n hx hb dX1_leastStrict_14 rfl (lv_at hl 3 rfl) ?_
        refine lv_iload hx hb dX1_leastStrict_15 (lv_at hl 1 rfl) ?_
        refine lv_ishr hx hb dX1_leastStrict_17 ?_
        refine lv_iconst (v := 1) hx hb dX1_leastStrict_18 (by decide) ?_
        refine lv_iand hx hb dX1_leastStrict_19 ?_
        refine lv_iconst (v := 1) hx hb dX1_leastStrict_20 (by decide) ?_
        refine lv_icmp_ne (tgt := 36) hx hb dX1_leastStrict_21 (by decide) (fun c_21 => ?_) (fun c_21 => ?_)
        · skip
          refine lv_iinc (v := nI (k + 1)) (lv' := [(4, .int (nI (k + 1))), (3, .int (maxI (fun v => hasI wanted v) (fun v => bcI (wrbD S F v N &&& set)) k)), (0, .ref h), (1, .int wanted), (2, .int set)]) hx hb dX1_leastStrict_36 hl (k := 1) rfl (nI_1 _) (by decide) rfl (fun ls hl => ?_)
          refine lv_goto (tgt := 5) hx hb dX1_leastStrict_39 (by decide) ?_
          rw [show (maxI (fun v => hasI wanted v) (fun v => bcI (wrbD S F v N &&& set)) k : Int32) = maxI (fun v => hasI wanted v) (fun v => bcI (wrbD S F v N &&& set)) (k + 1) from by simp [maxI, hasI, c_11, c_11', c_21]] at hl
          exact ih_5 (k + 1) (by omega) (by omega) _ (lv_sub hl [1, 0, 2, 3, 4] rfl)
        · skip
          refine lv_iload_n hx hb dX1_leastStrict_24 rfl (lv_at hl 0 rfl) ?_
          refine lv_aload_n hx hb dX1_leastStrict_25 rfl (lv_at hl 2 rfl) ?_
          refine lv_iload hx hb dX1_leastStrict_26 (lv_at hl 1 rfl) ?_
          refine lv_iload_n hx hb dX1_leastStrict_28 rfl (lv_at hl 4 rfl) ?_
          refine ro_calli (va_runV (As := [.int (nI k), .int set]) (rest := [.int (maxI (fun v => hasI wanted v) (fun v => bcI (wrbD S F v N &&& set)) k)]) ⟨hx, hb, hml, hown, hts⟩ (c_X1_timesWrong l G h q S F k set N (by omega) (hN) (hN8)) (cwV 2 hts gX1_leastStrict_X1_timesWrong rfl rfl rfl (by decide +kernel) ⟨Nat.le_of_ble_eq_true rfl, Nat.le_of_ble_eq_true rfl⟩) (ro_preV hK hP hP (ci := 1) (q0 := 0) rfl rfl) rfl rfl hl.1 rfl (lv_room (Nat.le_of_ble_eq_true rfl)) dX1_leastStrict_29 ⟨Nat.zero_le _, Nat.zero_le _⟩) (fun r_1 hr_1 => ?_)
          refine lz_top (y := bcI (wrbD S F k N &&& set)) hr_1 ?_
          refine va_mmax hx hb (hml.trans hl.1.symm) hown hw2 hw3 hw4 hw5 (Nat.le_of_ble_eq_true rfl) (Nat.le_of_ble_eq_true rfl) (Nat.zero_le _) (Nat.zero_le _) dX1_leastStrict_32 ?_
          refine lv_topi (fun x_2 ex_2 => ?_)
          refine lv_istore_n (lv' := [(3, .int x_2), (4, .int (nI k)), (0, .ref h), (1, .int wanted), (2, .int set)]) hx hb dX1_leastStrict_35 rfl hl (by decide) rfl (fun ls hl => ?_)
          refine lv_iinc (v := nI (k + 1)) (lv' := [(4, .int (nI (k + 1))), (3, .int x_2), (0, .ref h), (1, .int wanted), (2, .int set)]) hx hb dX1_leastStrict_36 hl (k := 1) rfl (nI_1 _) (by decide) rfl (fun ls hl => ?_)
          refine lv_goto (tgt := 5) hx hb dX1_leastStrict_39 (by decide) ?_
          obtain rfl : x_2 = maxI (fun v => hasI wanted v) (fun v => bcI (wrbD S F v N &&& set)) (k + 1) := by rw [ex_2]; simp [maxI, hasI, c_11, c_11', c_21]
          exact ih_5 (k + 1) (by omega) (by omega) _ (lv_sub hl [1, 0, 2, 3, 4] rfl)
  exact J_5 _ 0 (by omega) (Nat.lt_succ_self _) _ (lv_sub hl [1, 0, 2, 3, 4] rfl)
set_option maxHeartbeats 4000000 in
set_option maxRecDepth 100000 in
theorem c_X1_difference (l : Launch) (G : lzG) (h : Nat) (q : Nat → Nat) (S : Nat → Int32) (F : Nat → Nat → Int32) (s N M : Nat) (hN : S 2 = nI N) (hN8 : N ≤ 8) (hM : S 3 = nI M) (hM5 : M ≤ 5) : Met l yX1_difference wsX1_difference ({ frames := 4, cells := 0, slots := 0, locals := 90 }) (va_Pc [.ref h, .int (nI s)] (roP G (lzDoor G h q S F))) (vp_Si (fun r => r = diffD S F s N M)) 0 0 (fun _ => False) := by
  refine ro_start (cc := cX1_difference) (maxL := 4) (ret := (some .int)) (by decide) rfl (Nat.le_of_ble_eq_true rfl) ?_
  intro pp ee ss mm bl me cd hx hb hr hlk hml hts hown hP hK ls hl
  have hown : ss.vm.findClass RX1 = some mm.cls := hown
  have hw1 := hts (.fieldLink RX1 21 "LampSquares$Door" "visitors" "I") (List.mem_of_getElem? (i := 1) rfl)
  have hw2 := hts (.methodLink RX1 128 Lib.Math.abs.name) (List.mem_of_getElem? (i := 2) rfl)
  have hw3 := hts (.static Lib.Math.abs.name) (List.mem_of_getElem? (i := 3) rfl)
  have hw4 := hts (.initialized "java/lang/Math") (List.mem_of_getElem? (i := 4) rfl)
  have hw5 := hts (.code Lib.Math.abs.name Lib.Math.abs.code 1 (some .int)) (List.mem_of_getElem? (i := 5) rfl)
  have hu_wsX10 : ∀ w ∈ wsX10, w.before ([.ref h, .int (nI s)] : List Value).toArray ss = true := fun w h9 => hts w (List.mem_cons_of_mem _ (List.mem_append_right _ h9))
  have hl : lv_has ls 4 [(0, .ref h), (1, .int (nI s))] := hl
  refine lv_iconst (v := 0) hx hb dX1_difference_0 (by decide) ?_
  refine lv_istore_n (lv' := [(2, .int 0), (0, .ref h), (1, .int (nI s))]) hx hb dX1_difference_1 rfl hl (by decide) rfl (fun ls hl => ?_)
  refine lv_iconst (v := 0) hx hb dX1_difference_2 (by decide) ?_
  refine lv_istore_n (lv' := [(3, .int 0), (2, .int 0), (0, .ref h), (1, .int (nI s))]) hx hb dX1_difference_3 rfl hl (by decide) rfl (fun ls hl => ?_)
  have J_4 : ∀ (n9 : Nat), ∀ (k : Nat), (k ≤ M) → M - k < n9 → ∀ ls : Array Slot, lv_has ls 4 [(2, .int (sumI (fun v => wrbD S F v N >>> (nI s &&& 31) &&& 1) k)), (3, .int (nI k)), (0, .ref h), (1, .int (nI s))] → W pp l ee ({ frames := 4, cells := 0, slots := 0, locals := 90 }) ss mm ([.ref h, .int (nI s)] : List Value).toArray bl me cd ss.heap [] 0 0 (MQ bl (vp_Si (fun r => r = diffD S F s N M)) ([.ref h, .int (nI s)] : List Value).toArray ss 0 0 (fun _ => False)) (F0 mm 4 ls []) := by
    intro n9
    induction n9 with
    | zero => intro k hk hn; exact absurd hn (Nat.not_lt_zero _)
    | succ n9 ih_4 =>
      intro k hk hn_4 ls hl
      refine lv_iload_n hx hb dX1_difference_4 rfl (lv_at hl 1 rfl) ?_
      refine lv_aload_n hx hb dX1_difference_5 rfl (lv_at hl 2 rfl) ?_
      refine lz_get (G := G) (ci := 1) (v := .int (S 3)) (C := RX1) (T := TX1) (N := 14) hx hb hu_wsX10 (fun _ h9 => h9) hown hK hP 0 rfl rfl 3 (by decide) hw1 rfl rfl dX1_difference_6 ?_
      refine lv_icmp_ge (tgt := 30) hx hb dX1_difference_9 (by decide) (fun c_9 => ?_) (fun c_9 => ?_)
      · skip
        have c_9' := Int32.not_lt.mpr c_9
        have hk2 : M ≤ k := lz_ge hM c_9 (by omega) (by omega)
        obtain rfl : k = M := by omega
        refine lv_iload_n hx hb dX1_difference_30 rfl (lv_at hl 0 rfl) ?_
        refine lv_aload_n hx hb dX1_difference_31 rfl (lv_at hl 2 rfl) ?_
        refine lz_get (G := G) (ci := 1) (v := .int (S 3)) (C := RX1) (T := TX1) (N := 14) hx hb hu_wsX10 (fun _ h9 => h9) hown hK hP 0 rfl rfl 3 (by decide) hw1 rfl rfl dX1_difference_32 ?_
        refine lv_iload_n hx hb dX1_difference_35 rfl (lv_at hl 0 rfl) ?_
        refine lv_isub hx hb dX1_difference_36 ?_
        refine lv_isub hx hb dX1_difference_37 ?_
        refine va_mabs hx hb (hml.trans hl.1.symm) hown hw2 hw3 hw4 hw5 (Nat.le_of_ble_eq_true rfl) (Nat.le_of_ble_eq_true rfl) (Nat.zero_le _) (Nat.zero_le _) dX1_difference_38 ?_
        exact ro_iret hx hb hr hlk dX1_difference_41 (rfl)
      · skip
        have c_9' := Int32.not_le.mp c_9
        have hk2 : k < M := lz_lt hM c_9 (by omega) (by omega)
        refine lv_iload_n hx hb dX1_difference_12 rfl (lv_at hl 0 rfl) ?_
        refine lv_aload_n hx hb dX1_difference_13 rfl (lv_at hl 2 rfl) ?_
        refine lv_iload_n hx hb dX1_difference_14 rfl (lv_at hl 1 rfl) ?_
        refine ro_calli (va_runV (As := [.int (nI k)]) (rest := [.int (sumI (fun v => wrbD S F v N >>> (nI s &&& 31) &&& 1) k)]) ⟨hx, hb, hml, hown, hts⟩ (c_X1_wrongBits l G h q S F k N (by omega) (hN) (hN8)) (cwV 1 hts gX1_difference_X1_wrongBits rfl rfl rfl (by decide +kernel) ⟨Nat.le_of_ble_eq_true rfl, Nat.le_of_ble_eq_true rfl⟩) (ro_preV hK hP hP (ci := 1) (q0 := 0) rfl rfl) rfl rfl hl.1 rfl (lv_room (Nat.le_of_ble_eq_true rfl)) dX1_difference_15 ⟨Nat.zero_le _, Nat.zero_le _⟩) (fun r_1 hr_1 => ?_)
        refine lz_top (y := wrbD S F k N) hr_1 ?_
        refine lv_iload_n hx hb dX1_difference_18 rfl (lv_at hl 3 rfl) ?_
        refine lv_ishr hx hb dX1_difference_19 ?_
        refine lv_iconst (v := 1) hx hb dX1_difference_20 (by decide) ?_
        refine lv_iand hx hb dX1_difference_21 ?_
        refine lv_iadd hx hb dX1_difference_22 ?_
        refine lv_topi (fun x_2 ex_2 => ?_)
        refine lv_istore_n (lv' := [(2, .int x_2), (3, .int (nI k)), (0, .ref h), (1, .int (nI s))]) hx hb dX1_difference_23 rfl hl (by decide) rfl (fun ls hl => ?_)
        refine lv_iinc (v := nI (k + 1)) (lv' := [(3, .int (nI (k + 1))), (2, .int x_2), (0, .ref h), (1, .int (nI s))]) hx hb dX1_difference_24 hl (k := 1) rfl (nI_1 _) (by decide) rfl (fun ls hl => ?_)
        refine lv_goto (tgt := 4) hx hb dX1_difference_27 (by decide) ?_
        obtain rfl : x_2 = sumI (fun v => wrbD S F v N >>> (nI s &&& 31) &&& 1) (k + 1) := by rw [ex_2]; rfl
        exact ih_4 (k + 1) (by omega) (by omega) _ (lv_sub hl [1, 0, 2, 3] rfl)
  exact J_4 _ 0 (by omega) (Nat.lt_succ_self _) _ (lv_sub hl [1, 0, 2, 3] rfl)
set_option maxHeartbeats 4000000 in
set_option maxRecDepth 100000 in
theorem c_X1_keenest (l : Launch) (G : lzG) (h : Nat) (q : Nat → Nat) (S : Nat → Int32) (F : Nat → Nat → Int32) (N M : Nat) (hN : S 2 = nI N) (hN8 : N ≤ 8) (hM : S 3 = nI M) (hM5 : M ≤ 5) : Met l yX1_keenest wsX1_keenest ({ frames := 5, cells := 0, slots := 0, locals := 113 }) (va_Pc [.ref h] (roP G (lzDoor G h q S F))) (vp_Si (fun r => r = (keenD S F N M N).1)) 0 0 (fun _ => False) := by
  refine ro_start (cc := cX1_keenest) (maxL := 4) (ret := (some .int)) (by decide) rfl (Nat.le_of_ble_eq_true rfl) ?_
  intro pp ee ss mm bl me cd hx hb hr hlk hml hts hown hP hK ls hl
  have hown : ss.vm.findClass RX1 = some mm.cls := hown
  have hw1 := hts (.constant RX1 61 (-1000000)) (List.mem_of_getElem? (i := 1) rfl)
  have hw2 := hts (.fieldLink RX1 18 "LampSquares$Door" "squares" "I") (List.mem_of_getElem? (i := 2) rfl)
  have hu_wsX10 : ∀ w ∈ wsX10, w.before ([.ref h] : List Value).toArray ss = true := fun w h9 => hts w (List.mem_cons_of_mem _ (List.mem_append_right _ h9))
  have hl : lv_has ls 4 [(0, .ref h)] := hl
  refine lv_ldc hx hb hown hw1 dX1_keenest_0 ?_
  refine lv_istore_n (lv' := [(1, .int (-1000000)), (0, .ref h)]) hx hb dX1_keenest_2 rfl hl (by decide) rfl (fun ls hl => ?_)
  refine lv_bipush (v := 6) hx hb dX1_keenest_3 (by decide) ?_
  refine lv_istore_n (lv' := [(2, .int 6), (1, .int (-1000000)), (0, .ref h)]) hx hb dX1_keenest_5 rfl hl (by decide) rfl (fun ls hl => ?_)
  refine lv_iconst (v := 0) hx hb dX1_keenest_6 (by decide) ?_
  refine lv_istore_n (lv' := [(3, .int 0), (2, .int 6), (1, .int (-1000000)), (0, .ref h)]) hx hb dX1_keenest_7 rfl hl (by decide) rfl (fun ls hl => ?_)
  have J_8 : ∀ (n9 : Nat), ∀ (k : Nat), (k ≤ N) → N - k < n9 → ∀ ls : Array Slot, lv_has ls 4 [(1, .int ((keenD S F N M k).1)), (2, .int ((keenD S F N M k).2)), (3, .int (nI k)), (0, .ref h)] → W pp l ee ({ frames := 5, cells := 0, slots := 0, locals := 113 }) ss mm ([.ref h] : List Value).toArray bl me cd ss.heap [] 0 0 (MQ bl (vp_Si (fun r => r = (keenD S F N M N).1)) ([.ref h] : List Value).toArray ss 0 0 (fun _ => False)) (F0 mm 8 ls []) := by
    intro n9
    induction n9 with
    | zero => intro k hk hn; exact absurd hn (Nat.not_lt_zero _)
    | succ n9 ih_8 =>
      intro k hk hn_8 ls hl
      refine lv_iload_n hx hb dX1_keenest_8 rfl (lv_at hl 2 rfl) ?_
      refine lv_aload_n hx hb dX1_keenest_9 rfl (lv_at hl 3 rfl) ?_
      refine lz_get (G := G) (ci := 1) (v := .int (S 2)) (C := RX1) (T := TX1) (N := 14) hx hb hu_wsX10 (fun _ h9 => h9) hown hK hP 0 rfl rfl 2 (by decide) hw2 rfl rfl dX1_keenest_10 ?_
      refine lv_icmp_ge (tgt := 47) hx hb dX1_keenest_13 (by decide) (fun c_13 => ?_) (fun c_13 => ?_)
      · skip
        have c_13' := Int32.not_lt.mpr c_13
        have hk2 : N ≤ k := lz_ge hN c_13 (by omega) (by omega)
        obtain rfl : k = N := by omega
        refine lv_iload_n hx hb dX1_keenest_47 rfl (lv_at hl 0 rfl) ?_
        exact ro_iret hx hb hr hlk dX1_keenest_48 (rfl)
      · skip
        have c_13' := Int32.not_le.mp c_13
        have hk2 : k < N := lz_lt hN c_13 (by omega) (by omega)
        refine lv_aload_n hx hb dX1_keenest_16 rfl (lv_at hl 3 rfl) ?_
        refine lv_iload_n hx hb dX1_keenest_17 rfl (lv_at hl 2 rfl) ?_
        refine ro_calli (va_runV (As := [.int (nI k)]) (rest := []) ⟨hx, hb, hml, hown, hts⟩ (c_X1_isCounted l G h q S F k (by omega)) (cwV 1 hts gX1_keenest_X1_isCounted rfl rfl rfl (by decide +kernel) ⟨Nat.le_of_ble_eq_true rfl, Nat.le_of_ble_eq_true rfl⟩) (ro_preV hK hP hP (ci := 1) (q0 := 0) rfl rfl) rfl rfl hl.1 rfl (lv_room (Nat.le_of_ble_eq_true rfl)) dX1_keenest_18 ⟨Nat.zero_le _, Nat.zero_le _⟩) (fun r_1 hr_1 => ?_)
        refine lv_if_eq (tgt := 41) hx hb dX1_keenest_21 (by decide) (fun c_21 => ?_) (fun c_21 => ?_)
        · skip
          have c_21 := b2_z hr_1 c_21
          refine lv_iinc (v := nI (k + 1)) (lv' := [(3, .int (nI (k + 1))), (1, .int ((keenD S F N M k).1)), (2, .int ((keenD S F N M k).2)), (0, .ref h)]) hx hb dX1_keenest_41 hl (k := 2) rfl (nI_1 _) (by decide) rfl (fun ls hl => ?_)
          refine lv_goto (tgt := 8) hx hb dX1_keenest_44 (by decide) ?_
          rw [show ((keenD S F N M k).1 : Int32) = (keenD S F N M (k + 1)).1 from by simp [keenD, c_13, c_13', c_21]] at hl
          rw [show ((keenD S F N M k).2 : Int32) = (keenD S F N M (k + 1)).2 from by simp [keenD, c_13, c_13', c_21]] at hl
          exact ih_8 (k + 1) (by omega) (by omega) _ (lv_sub hl [1, 2, 0, 3] rfl)
        · skip
          have c_21 := b2_n hr_1 c_21
          refine lv_aload_n hx hb dX1_keenest_24 rfl (lv_at hl 3 rfl) ?_
          refine lv_iload_n hx hb dX1_keenest_25 rfl (lv_at hl 2 rfl) ?_
          refine ro_calli (va_runV (As := [.int (nI k)]) (rest := []) ⟨hx, hb, hml, hown, hts⟩ (c_X1_difference l G h q S F k N M (hN) (hN8) (hM) (hM5)) (cwV 1 hts gX1_keenest_X1_difference rfl rfl rfl (by decide +kernel) ⟨Nat.le_of_ble_eq_true rfl, Nat.le_of_ble_eq_true rfl⟩) (ro_preV hK hP hP (ci := 1) (q0 := 0) rfl rfl) rfl rfl hl.1 rfl (lv_room (Nat.le_of_ble_eq_true rfl)) dX1_keenest_26 ⟨Nat.zero_le _, Nat.zero_le _⟩) (fun r_2 hr_2 => ?_)
          refine lz_top (y := diffD S F k N M) hr_2 ?_
          refine lv_iload_n hx hb dX1_keenest_29 rfl (lv_at hl 1 rfl) ?_
          refine lv_icmp_ge (tgt := 41) hx hb dX1_keenest_30 (by decide) (fun c_30 => ?_) (fun c_30 => ?_)
          · skip
            have c_30' := Int32.not_lt.mpr c_30
            refine lv_iinc (v := nI (k + 1)) (lv' := [(3, .int (nI (k + 1))), (1, .int ((keenD S F N M k).1)), (2, .int ((keenD S F N M k).2)), (0, .ref h)]) hx hb dX1_keenest_41 hl (k := 2) rfl (nI_1 _) (by decide) rfl (fun ls hl => ?_)
            refine lv_goto (tgt := 8) hx hb dX1_keenest_44 (by decide) ?_
            rw [show ((keenD S F N M k).1 : Int32) = (keenD S F N M (k + 1)).1 from by simp [keenD, c_13, c_13', c_21, c_30, c_30']] at hl
            rw [show ((keenD S F N M k).2 : Int32) = (keenD S F N M (k + 1)).2 from by simp [keenD, c_13, c_13', c_21, c_30, c_30']] at hl
            exact ih_8 (k + 1) (by omega) (by omega) _ (lv_sub hl [1, 2, 0, 3] rfl)
          · skip
            have c_30' := Int32.not_le.mp c_30
            refine lv_iload_n hx hb dX1_keenest_33 rfl (lv_at hl 2 rfl) ?_
            refine lv_istore_n (lv' := [(1, .int (nI k)), (2, .int ((keenD S F N M k).2)), (3, .int (nI k)), (0, .ref h)]) hx hb dX1_keenest_34 rfl hl (by decide) rfl (fun ls hl => ?_)
            refine lv_aload_n hx hb dX1_keenest_35 rfl (lv_at hl 3 rfl) ?_
            refine lv_iload_n hx hb dX1_keenest_36 rfl (lv_at hl 2 rfl) ?_
            refine ro_calli (va_runV (As := [.int (nI k)]) (rest := []) ⟨hx, hb, hml, hown, hts⟩ (c_X1_difference l G h q S F k N M (hN) (hN8) (hM) (hM5)) (cwV 1 hts gX1_keenest_X1_difference rfl rfl rfl (by decide +kernel) ⟨Nat.le_of_ble_eq_true rfl, Nat.le_of_ble_eq_true rfl⟩) (ro_preV hK hP hP (ci := 1) (q0 := 0) rfl rfl) rfl rfl hl.1 rfl (lv_room (Nat.le_of_ble_eq_true rfl)) dX1_keenest_37 ⟨Nat.zero_le _, Nat.zero_le _⟩) (fun r_3 hr_3 => ?_)
            refine lz_top (y := diffD S F k N M) hr_3 ?_
            refine lv_topi (fun x_4 ex_4 => ?_)
            refine lv_istore_n (lv' := [(2, .int x_4), (1, .int (nI k)), (3, .int (nI k)), (0, .ref h)]) hx hb dX1_keenest_40 rfl hl (by decide) rfl (fun ls hl => ?_)
            refine lv_iinc (v := nI (k + 1)) (lv' := [(3, .int (nI (k + 1))), (2, .int x_4), (1, .int (nI k)), (0, .ref h)]) hx hb dX1_keenest_41 hl (k := 2) rfl (nI_1 _) (by decide) rfl (fun ls hl => ?_)
            refine lv_goto (tgt := 8) hx hb dX1_keenest_44 (by decide) ?_
            rw [show (nI k : Int32) = (keenD S F N M (k + 1)).1 from by simp [keenD, c_13, c_13', c_21, c_30, c_30']] at hl
            obtain rfl : x_4 = (keenD S F N M (k + 1)).2 := by rw [ex_4]; simp [keenD, c_13, c_13', c_21, c_30, c_30']
            exact ih_8 (k + 1) (by omega) (by omega) _ (lv_sub hl [2, 1, 0, 3] rfl)
  exact J_8 _ 0 (by omega) (Nat.lt_succ_self _) _ (lv_sub hl [2, 1, 0, 3] rfl)
set_option maxHeartbeats 4000000 in
set_option maxRecDepth 100000 in
theorem c_X1_clickAlike (l : Launch) (G : lzG) (h : Nat) (q : Nat → Nat) (S : Nat → Int32) (F : Nat → Nat → Int32) (v w : Nat) (set : Int32) (N : Nat) (hv : v < 5) (hw : w < 5) (hN : S 2 = nI N) (hN8 : N ≤ 8) : Met l yX1_clickAlike wsX1_clickAlike ({ frames := 3, cells := 0, slots := 0, locals := 69 }) (va_Pc [.ref h, .int (nI v), .int (nI w), .int set] (roP G (lzDoor G h q S F))) (vp_Si (fun r : Int32 => r = b2 (alikeD F v w set N))) 0 0 (fun _ => False) := by
  refine ro_start (cc := cX1_clickAlike) (maxL := 4) (ret := (some .boolean)) (by decide) rfl (Nat.le_of_ble_eq_true rfl) ?_
  intro pp ee ss mm bl me cd hx hb hr hlk hml hts hown hP hK ls hl
  have hown : ss.vm.findClass RX1 = some mm.cls := hown
  have hl : lv_has ls 4 [(0, .ref h), (1, .int (nI v)), (2, .int (nI w)), (3, .int set)] := hl
  refine lv_aload_n hx hb dX1_clickAlike_0 rfl (lv_at hl 0 rfl) ?_
  refine lv_iload_n hx hb dX1_clickAlike_1 rfl (lv_at hl 1 rfl) ?_
  refine ro_calli (va_runV (As := [.int (nI v)]) (rest := []) ⟨hx, hb, hml, hown, hts⟩ (c_X1_clickBits l G h q S F v N (by omega) (hN) (hN8)) (cwV 1 hts gX1_clickAlike_X1_clickBits rfl rfl rfl (by decide +kernel) ⟨Nat.le_of_ble_eq_true rfl, Nat.le_of_ble_eq_true rfl⟩) (ro_preV hK hP hP (ci := 1) (q0 := 0) rfl rfl) rfl rfl hl.1 rfl (lv_room (Nat.le_of_ble_eq_true rfl)) dX1_clickAlike_2 ⟨Nat.zero_le _, Nat.zero_le _⟩) (fun r_1 hr_1 => ?_)
  refine lz_top (y := bitsI (clkD F v) N) hr_1 ?_
  refine lv_aload_n hx hb dX1_clickAlike_5 rfl (lv_at hl 0 rfl) ?_
  refine lv_iload_n hx hb dX1_clickAlike_6 rfl (lv_at hl 2 rfl) ?_
  refine ro_calli (va_runV (As := [.int (nI w)]) (rest := [.int (bitsI (clkD F v) N)]) ⟨hx, hb, hml, hown, hts⟩ (c_X1_clickBits l G h q S F w N (by omega) (hN) (hN8)) (cwV 1 hts gX1_clickAlike_X1_clickBits rfl rfl rfl (by decide +kernel) ⟨Nat.le_of_ble_eq_true rfl, Nat.le_of_ble_eq_true rfl⟩) (ro_preV hK hP hP (ci := 1) (q0 := 0) rfl rfl) rfl rfl hl.1 rfl (lv_room (Nat.le_of_ble_eq_true rfl)) dX1_clickAlike_7 ⟨Nat.zero_le _, Nat.zero_le _⟩) (fun r_2 hr_2 => ?_)
  refine lz_top (y := bitsI (clkD F w) N) hr_2 ?_
  refine lv_ixor hx hb dX1_clickAlike_10 ?_
  refine lv_iload_n hx hb dX1_clickAlike_11 rfl (lv_at hl 3 rfl) ?_
  refine lv_iand hx hb dX1_clickAlike_12 ?_
  refine lv_if_ne (tgt := 20) hx hb dX1_clickAlike_13 (by decide) (fun c_13 => ?_) (fun c_13 => ?_)
  · skip
    refine lv_iconst (v := 0) hx hb dX1_clickAlike_20 (by decide) ?_
    exact ro_zret hx hb hr hlk dX1_clickAlike_21 (by simp [alikeD, b2, c_13])
  · skip
    refine lv_iconst (v := 1) hx hb dX1_clickAlike_16 (by decide) ?_
    refine lv_goto (tgt := 21) hx hb dX1_clickAlike_17 (by decide) ?_
    exact ro_zret hx hb hr hlk dX1_clickAlike_21 (by simp [alikeD, b2, c_13])
set_option maxHeartbeats 4000000 in
set_option maxRecDepth 100000 in
theorem c_X1_pairsToldApart (l : Launch) (G : lzG) (h : Nat) (q : Nat → Nat) (S : Nat → Int32) (F : Nat → Nat → Int32) (set : Int32) (N M : Nat) (hN : S 2 = nI N) (hN8 : N ≤ 8) (hM : S 3 = nI M) (hM5 : M ≤ 5) : Met l yX1_pairsToldApart wsX1_pairsToldApart ({ frames := 4, cells := 0, slots := 0, locals := 92 }) (va_Pc [.ref h, .int set] (roP G (lzDoor G h q S F))) (vp_Si (fun r => r = sumI (rowI (fun v w => !alikeD F v w set N) M) M)) 0 0 (fun _ => False) := by
  refine ro_start (cc := cX1_pairsToldApart) (maxL := 5) (ret := (some .int)) (by decide) rfl (Nat.le_of_ble_eq_true rfl) ?_
  intro pp ee ss mm bl me cd hx hb hr hlk hml hts hown hP hK ls hl
  have hown : ss.vm.findClass RX1 = some mm.cls := hown
  have hw1 := hts (.fieldLink RX1 21 "LampSquares$Door" "visitors" "I") (List.mem_of_getElem? (i := 1) rfl)
  have hu_wsX10 : ∀ w ∈ wsX10, w.before ([.ref h, .int set] : List Value).toArray ss = true := fun w h9 => hts w (List.mem_cons_of_mem _ (List.mem_append_right _ h9))
  have hl : lv_has ls 5 [(0, .ref h), (1, .int set)] := hl
  refine lv_iconst (v := 0) hx hb dX1_pairsToldApart_0 (by decide) ?_
  refine lv_istore_n (lv' := [(2, .int 0), (0, .ref h), (1, .int set)]) hx hb dX1_pairsToldApart_1 rfl hl (by decide) rfl (fun ls hl => ?_)
  refine lv_iconst (v := 0) hx hb dX1_pairsToldApart_2 (by decide) ?_
  refine lv_istore_n (lv' := [(3, .int 0), (2, .int 0), (0, .ref h), (1, .int set)]) hx hb dX1_pairsToldApart_3 rfl hl (by decide) rfl (fun ls hl => ?_)
  have J_4 : ∀ (n9 : Nat), ∀ (k : Nat), (k ≤ M) → M - k < n9 → ∀ ls : Array Slot, lv_has ls 5 [(2, .int (sumI (rowI (fun v w => !alikeD F v w set N) M) k)), (3, .int (nI k)), (0, .ref h), (1, .int set)] → W pp l ee ({ frames := 4, cells := 0, slots := 0, locals := 92 }) ss mm ([.ref h, .int set] : List Value).toArray bl me cd ss.heap [] 0 0 (MQ bl (vp_Si (fun r => r = sumI (rowI (fun v w => !alikeD F v w set N) M) M)) ([.ref h, .int set] : List Value).toArray ss 0 0 (fun _ => False)) (F0 mm 4 ls []) := by
    intro n9
    induction n9 with
    | zero => intro k hk hn; exact absurd hn (Nat.not_lt_zero _)
    | succ n9 ih_4 =>
      intro k hk hn_4 ls hl
      refine lv_iload_n hx hb dX1_pairsToldApart_4 rfl (lv_at hl 1 rfl) ?_
      refine lv_aload_n hx hb dX1_pairsToldApart_5 rfl (lv_at hl 2 rfl) ?_
      refine lz_get (G := G) (ci := 1) (v := .int (S 3)) (C := RX1) (T := TX1) (N := 14) hx hb hu_wsX10 (fun _ h9 => h9) hown hK hP 0 rfl rfl 3 (by decide) hw1 rfl rfl dX1_pairsToldApart_6 ?_
      refine lv_icmp_ge (tgt := 52) hx hb dX1_pairsToldApart_9 (by decide) (fun c_9 => ?_) (fun c_9 => ?_)
      · skip
        have c_9' := Int32.not_lt.mpr c_9
        have hk2 : M ≤ k := lz_ge hM c_9 (by omega) (by omega)
        obtain rfl : k = M := by omega
        refine lv_iload_n hx hb dX1_pairsToldApart_52 rfl (lv_at hl 0 rfl) ?_
        exact ro_iret hx hb hr hlk dX1_pairsToldApart_53 (rfl)
      · skip
        have c_9' := Int32.not_le.mp c_9
        have hk2 : k < M := lz_lt hM c_9 (by omega) (by omega)
        refine lv_iload_n hx hb dX1_pairsToldApart_12 rfl (lv_at hl 1 rfl) ?_
        refine lv_iconst (v := 1) hx hb dX1_pairsToldApart_13 (by decide) ?_
        refine lv_iadd hx hb dX1_pairsToldApart_14 ?_
        refine lv_topi (fun x_1 ex_1 => ?_)
        refine lv_istore (lv' := [(4, .int x_1), (2, .int (sumI (rowI (fun v w => !alikeD F v w set N) M) k)), (3, .int (nI k)), (0, .ref h), (1, .int set)]) hx hb dX1_pairsToldApart_15 hl (by decide) rfl (fun ls hl => ?_)
        have J_17 : ∀ (n9 : Nat), ∀ (d : Nat), (k + 1 + d ≤ M) → M - d < n9 → ∀ ls : Array Slot, lv_has ls 5 [(2, .int (sumI (rowI (fun v w => !alikeD F v w set N) M) k + rowJ (fun v w => !alikeD F v w set N) k d)), (4, .int (nI (k + 1 + d))), (3, .int (nI k)), (0, .ref h), (1, .int set)] → W pp l ee ({ frames := 4, cells := 0, slots := 0, locals := 92 }) ss mm ([.ref h, .int set] : List Value).toArray bl me cd ss.heap [] 0 0 (MQ bl (vp_Si (fun r => r = sumI (rowI (fun v w => !alikeD F v w set N) M) M)) ([.ref h, .int set] : List Value).toArray ss 0 0 (fun _ => False)) (F0 mm 17 ls []) := by
          intro n9
          induction n9 with
          | zero => intro d hd hn; exact absurd hn (Nat.not_lt_zero _)
          | succ n9 ih_17 =>
            intro d hd hn_17 ls hl
            refine lv_iload hx hb dX1_pairsToldApart_17 (lv_at hl 1 rfl) ?_
            refine lv_aload_n hx hb dX1_pairsToldApart_19 rfl (lv_at hl 3 rfl) ?_
            refine lz_get (G := G) (ci := 1) (v := .int (S 3)) (C := RX1) (T := TX1) (N := 14) hx hb hu_wsX10 (fun _ h9 => h9) hown hK hP 0 rfl rfl 3 (by decide) hw1 rfl rfl dX1_pairsToldApart_20 ?_
            refine lv_icmp_ge (tgt := 46) hx hb dX1_pairsToldApart_23 (by decide) (fun c_23 => ?_) (fun c_23 => ?_)
            · skip
              have c_23' := Int32.not_lt.mpr c_23
              have hd2 : M ≤ k + 1 + d := lz_ge hM c_23 (by omega) (by omega)
              have hd3 : d = M - (k + 1) := by omega
              refine lv_iinc (v := nI (k + 1)) (lv' := [(3, .int (nI (k + 1))), (2, .int (sumI (rowI (fun v w => !alikeD F v w set N) M) k + rowJ (fun v w => !alikeD F v w set N) k d)), (4, .int (nI (k + 1 + d))), (0, .ref h), (1, .int set)]) hx hb dX1_pairsToldApart_46 hl (k := 2) rfl (nI_1 _) (by decide) rfl (fun ls hl => ?_)
              refine lv_goto (tgt := 4) hx hb dX1_pairsToldApart_49 (by decide) ?_
              rw [show (sumI (rowI (fun v w => !alikeD F v w set N) M) k + rowJ (fun v w => !alikeD F v w set N) k d : Int32) = sumI (rowI (fun v w => !alikeD F v w set N) M) (k + 1) from by rw [hd3]; rfl] at hl
              exact ih_4 (k + 1) (by omega) (by omega) _ (lv_sub hl [1, 0, 3, 4] rfl)
            · skip
              have c_23' := Int32.not_le.mp c_23
              have hd2 : k + 1 + d < M := lz_lt hM c_23 (by omega) (by omega)
              refine lv_aload_n hx hb dX1_pairsToldApart_26 rfl (lv_at hl 3 rfl) ?_
              refine lv_iload_n hx hb dX1_pairsToldApart_27 rfl (lv_at hl 2 rfl) ?_
              refine lv_iload hx hb dX1_pairsToldApart_28 (lv_at hl 1 rfl) ?_
              refine lv_iload_n hx hb dX1_pairsToldApart_30 rfl (lv_at hl 4 rfl) ?_
              refine ro_calli (va_runV (As := [.int (nI k), .int (nI (k + 1 + d)), .int set]) (rest := []) ⟨hx, hb, hml, hown, hts⟩ (c_X1_clickAlike l G h q S F k (k + 1 + d) set N (by omega) (by omega) (hN) (hN8)) (cwV 3 hts gX1_pairsToldApart_X1_clickAlike rfl rfl rfl (by decide +kernel) ⟨Nat.le_of_ble_eq_true rfl, Nat.le_of_ble_eq_true rfl⟩) (ro_preV hK hP hP (ci := 1) (q0 := 0) rfl rfl) rfl rfl hl.1 rfl (lv_room (Nat.le_of_ble_eq_true rfl)) dX1_pairsToldApart_31 ⟨Nat.zero_le _, Nat.zero_le _⟩) (fun r_2 hr_2 => ?_)
              refine lv_if_ne (tgt := 40) hx hb dX1_pairsToldApart_34 (by decide) (fun c_34 => ?_) (fun c_34 => ?_)
              · skip
                have c_34 := b2_n hr_2 c_34
                refine lv_iinc (v := nI ((k + 1 + d) + 1)) (lv' := [(4, .int (nI ((k + 1 + d) + 1))), (2, .int (sumI (rowI (fun v w => !alikeD F v w set N) M) k + rowJ (fun v w => !alikeD F v w set N) k d)), (3, .int (nI k)), (0, .ref h), (1, .int set)]) hx hb dX1_pairsToldApart_40 hl (k := 1) rfl (nI_1 _) (by decide) rfl (fun ls hl => ?_)
                refine lv_goto (tgt := 17) hx hb dX1_pairsToldApart_43 (by decide) ?_
                rw [show (sumI (rowI (fun v w => !alikeD F v w set N) M) k + rowJ (fun v w => !alikeD F v w set N) k d : Int32) = sumI (rowI (fun v w => !alikeD F v w set N) M) k + rowJ (fun v w => !alikeD F v w set N) k (d + 1) from by simp [rowJ, cntI, b2, c_9, c_9', c_23, c_23', c_34]] at hl
                exact ih_17 (d + 1) (by omega) (by omega) _ (lv_sub hl [1, 0, 2, 3, 4] rfl)
              · skip
                have c_34 := b2_z hr_2 c_34
                obtain ⟨x_3, ex_3⟩ : ∃ y : Int32, y = (sumI (rowI (fun v w => !alikeD F v w set N) M) k + rowJ (fun v w => !alikeD F v w set N) k d) + 1 := ⟨_, rfl⟩
                refine lv_iinc (v := x_3) (lv' := [(2, .int x_3), (4, .int (nI (k + 1 + d))), (3, .int (nI k)), (0, .ref h), (1, .int set)]) hx hb dX1_pairsToldApart_37 hl (k := 0) rfl (by rw [ex_3]; rfl) (by decide) rfl (fun ls hl => ?_)
                refine lv_iinc (v := nI ((k + 1 + d) + 1)) (lv' := [(4, .int (nI ((k + 1 + d) + 1))), (2, .int x_3), (3, .int (nI k)), (0, .ref h), (1, .int set)]) hx hb dX1_pairsToldApart_40 hl (k := 1) rfl (nI_1 _) (by decide) rfl (fun ls hl => ?_)
                refine lv_goto (tgt := 17) hx hb dX1_pairsToldApart_43 (by decide) ?_
                obtain rfl : x_3 = sumI (rowI (fun v w => !alikeD F v w set N) M) k + rowJ (fun v w => !alikeD F v w set N) k (d + 1) := by rw [ex_3]; simp [rowJ, cntI, b2, c_9, c_9', c_23, c_23', c_34, Int32.add_assoc]
                exact ih_17 (d + 1) (by omega) (by omega) _ (lv_sub hl [1, 0, 2, 3, 4] rfl)
        rw [show (sumI (rowI (fun v w => !alikeD F v w set N) M) k : Int32) = sumI (rowI (fun v w => !alikeD F v w set N) M) k + rowJ (fun v w => !alikeD F v w set N) k 0 from by simp [rowJ, cntI]] at hl
        obtain rfl : x_1 = nI (k + 1 + 0) := by rw [ex_1]; exact nI_1 _
        exact J_17 _ 0 (by omega) (Nat.lt_succ_self _) _ (lv_sub hl [1, 0, 2, 3, 4] rfl)
  exact J_4 _ 0 (by omega) (Nat.lt_succ_self _) _ (lv_sub hl [1, 0, 2, 3] rfl)
set_option maxHeartbeats 4000000 in
set_option maxRecDepth 100000 in
theorem c_X1_firstPairAlike (l : Launch) (G : lzG) (h : Nat) (q : Nat → Nat) (S : Nat → Int32) (F : Nat → Nat → Int32) (set : Int32) (N M : Nat) (hN : S 2 = nI N) (hN8 : N ≤ 8) (hM : S 3 = nI M) (hM5 : M ≤ 5) : Met l yX1_firstPairAlike wsX1_firstPairAlike ({ frames := 4, cells := 0, slots := 0, locals := 92 }) (va_Pc [.ref h, .int set] (roP G (lzDoor G h q S F))) (vp_Si (fun r => firstR (fun v w => alikeD F v w set N) M r)) 0 0 (fun _ => False) := by
  refine ro_start (cc := cX1_firstPairAlike) (maxL := 4) (ret := (some .int)) (by decide) rfl (Nat.le_of_ble_eq_true rfl) ?_
  intro pp ee ss mm bl me cd hx hb hr hlk hml hts hown hP hK ls hl
  have hown : ss.vm.findClass RX1 = some mm.cls := hown
  have hw1 := hts (.fieldLink RX1 21 "LampSquares$Door" "visitors" "I") (List.mem_of_getElem? (i := 1) rfl)
  have hw2 := hts (.constant RX1 61 (-1000000)) (List.mem_of_getElem? (i := 2) rfl)
  have hu_wsX10 : ∀ w ∈ wsX10, w.before ([.ref h, .int set] : List Value).toArray ss = true := fun w h9 => hts w (List.mem_cons_of_mem _ (List.mem_append_right _ h9))
  have hl : lv_has ls 4 [(0, .ref h), (1, .int set)] := hl
  refine lv_iconst (v := 0) hx hb dX1_firstPairAlike_0 (by decide) ?_
  refine lv_istore_n (lv' := [(2, .int 0), (0, .ref h), (1, .int set)]) hx hb dX1_firstPairAlike_1 rfl hl (by decide) rfl (fun ls hl => ?_)
  have J_2 : ∀ (n9 : Nat), ∀ (k : Nat), (k ≤ M) → (∀ a b, a < k → a < b → b < M → alikeD F a b set N = false) → M - k < n9 → ∀ ls : Array Slot, lv_has ls 4 [(2, .int (nI k)), (0, .ref h), (1, .int set)] → W pp l ee ({ frames := 4, cells := 0, slots := 0, locals := 92 }) ss mm ([.ref h, .int set] : List Value).toArray bl me cd ss.heap [] 0 0 (MQ bl (vp_Si (fun r => firstR (fun v w => alikeD F v w set N) M r)) ([.ref h, .int set] : List Value).toArray ss 0 0 (fun _ => False)) (F0 mm 2 ls []) := by
    intro n9
    induction n9 with
    | zero => intro k hk hno hn; exact absurd hn (Nat.not_lt_zero _)
    | succ n9 ih_2 =>
      intro k hk hno hn_2 ls hl
      refine lv_iload_n hx hb dX1_firstPairAlike_2 rfl (lv_at hl 0 rfl) ?_
      refine lv_aload_n hx hb dX1_firstPairAlike_3 rfl (lv_at hl 1 rfl) ?_
      refine lz_get (G := G) (ci := 1) (v := .int (S 3)) (C := RX1) (T := TX1) (N := 14) hx hb hu_wsX10 (fun _ h9 => h9) hown hK hP 0 rfl rfl 3 (by decide) hw1 rfl rfl dX1_firstPairAlike_4 ?_
      refine lv_icmp_ge (tgt := 51) hx hb dX1_firstPairAlike_7 (by decide) (fun c_7 => ?_) (fun c_7 => ?_)
      · skip
        have c_7' := Int32.not_lt.mpr c_7
        have hk2 : M ≤ k := lz_ge hM c_7 (by omega) (by omega)
        obtain rfl : k = M := by omega
        refine lv_ldc hx hb hown hw2 dX1_firstPairAlike_51 ?_
        exact ro_iret hx hb hr hlk dX1_firstPairAlike_53 (Or.inr ⟨rfl, hno⟩)
      · skip
        have c_7' := Int32.not_le.mp c_7
        have hk2 : k < M := lz_lt hM c_7 (by omega) (by omega)
        refine lv_iload_n hx hb dX1_firstPairAlike_10 rfl (lv_at hl 0 rfl) ?_
        refine lv_iconst (v := 1) hx hb dX1_firstPairAlike_11 (by decide) ?_
        refine lv_iadd hx hb dX1_firstPairAlike_12 ?_
        refine lv_topi (fun x_1 ex_1 => ?_)
        refine lv_istore_n (lv' := [(3, .int x_1), (2, .int (nI k)), (0, .ref h), (1, .int set)]) hx hb dX1_firstPairAlike_13 rfl hl (by decide) rfl (fun ls hl => ?_)
        have J_14 : ∀ (n9 : Nat), ∀ (j : Nat), (k < j ∧ j ≤ M) → (∀ b, k < b → b < j → alikeD F k b set N = false) → M - j < n9 → ∀ ls : Array Slot, lv_has ls 4 [(3, .int (nI j)), (2, .int (nI k)), (0, .ref h), (1, .int set)] → W pp l ee ({ frames := 4, cells := 0, slots := 0, locals := 92 }) ss mm ([.ref h, .int set] : List Value).toArray bl me cd ss.heap [] 0 0 (MQ bl (vp_Si (fun r => firstR (fun v w => alikeD F v w set N) M r)) ([.ref h, .int set] : List Value).toArray ss 0 0 (fun _ => False)) (F0 mm 14 ls []) := by
          intro n9
          induction n9 with
          | zero => intro j hj hnd hn; exact absurd hn (Nat.not_lt_zero _)
          | succ n9 ih_14 =>
            intro j hj hnd hn_14 ls hl
            refine lv_iload_n hx hb dX1_firstPairAlike_14 rfl (lv_at hl 0 rfl) ?_
            refine lv_aload_n hx hb dX1_firstPairAlike_15 rfl (lv_at hl 2 rfl) ?_
            refine lz_get (G := G) (ci := 1) (v := .int (S 3)) (C := RX1) (T := TX1) (N := 14) hx hb hu_wsX10 (fun _ h9 => h9) hown hK hP 0 rfl rfl 3 (by decide) hw1 rfl rfl dX1_firstPairAlike_16 ?_
            refine lv_icmp_ge (tgt := 45) hx hb dX1_firstPairAlike_19 (by decide) (fun c_19 => ?_) (fun c_19 => ?_)
            · skip
              have c_19' := Int32.not_lt.mpr c_19
              have hj2 : M ≤ j := lz_ge hM c_19 (by omega) (by omega)
              refine lv_iinc (v := nI (k + 1)) (lv' := [(2, .int (nI (k + 1))), (3, .int (nI j)), (0, .ref h), (1, .int set)]) hx hb dX1_firstPairAlike_45 hl (k := 1) rfl (nI_1 _) (by decide) rfl (fun ls hl => ?_)
              refine lv_goto (tgt := 2) hx hb dX1_firstPairAlike_48 (by decide) ?_
              exact ih_2 (k + 1) (by omega) (fun a b h h2 h3 => (Nat.lt_or_ge a k).elim (fun h4 => hno a b h4 h2 h3) (fun h4 => by have h5 : a = k := (by omega); rw [h5]; exact hnd b (by omega) (by omega))) (by omega) _ (lv_sub hl [0, 2, 3] rfl)
            · skip
              have c_19' := Int32.not_le.mp c_19
              have hj2 : j < M := lz_lt hM c_19 (by omega) (by omega)
              refine lv_aload_n hx hb dX1_firstPairAlike_22 rfl (lv_at hl 2 rfl) ?_
              refine lv_iload_n hx hb dX1_firstPairAlike_23 rfl (lv_at hl 1 rfl) ?_
              refine lv_iload_n hx hb dX1_firstPairAlike_24 rfl (lv_at hl 0 rfl) ?_
              refine lv_iload_n hx hb dX1_firstPairAlike_25 rfl (lv_at hl 3 rfl) ?_
              refine ro_calli (va_runV (As := [.int (nI k), .int (nI j), .int set]) (rest := []) ⟨hx, hb, hml, hown, hts⟩ (c_X1_clickAlike l G h q S F k j set N (by omega) (by omega) (hN) (hN8)) (cwV 3 hts gX1_firstPairAlike_X1_clickAlike rfl rfl rfl (by decide +kernel) ⟨Nat.le_of_ble_eq_true rfl, Nat.le_of_ble_eq_true rfl⟩) (ro_preV hK hP hP (ci := 1) (q0 := 0) rfl rfl) rfl rfl hl.1 rfl (lv_room (Nat.le_of_ble_eq_true rfl)) dX1_firstPairAlike_26 ⟨Nat.zero_le _, Nat.zero_le _⟩) (fun r_2 hr_2 => ?_)
              refine lv_if_eq (tgt := 39) hx hb dX1_firstPairAlike_29 (by decide) (fun c_29 => ?_) (fun c_29 => ?_)
              · skip
                have c_29 := b2_z hr_2 c_29
                refine lv_iinc (v := nI (j + 1)) (lv' := [(3, .int (nI (j + 1))), (2, .int (nI k)), (0, .ref h), (1, .int set)]) hx hb dX1_firstPairAlike_39 hl (k := 0) rfl (nI_1 _) (by decide) rfl (fun ls hl => ?_)
                refine lv_goto (tgt := 14) hx hb dX1_firstPairAlike_42 (by decide) ?_
                exact ih_14 (j + 1) (by omega) (fun b h h2 => (Nat.lt_or_ge b j).elim (fun h4 => hnd b h h4) (fun h4 => by have h5 : b = j := (by omega); rw [h5]; exact c_29)) (by omega) _ (lv_sub hl [0, 1, 2, 3] rfl)
              · skip
                have c_29 := b2_n hr_2 c_29
                refine lv_bipush (v := 10) hx hb dX1_firstPairAlike_32 (by decide) ?_
                refine lv_iload_n hx hb dX1_firstPairAlike_34 rfl (lv_at hl 1 rfl) ?_
                refine lv_imul hx hb dX1_firstPairAlike_35 ?_
                refine lv_iload_n hx hb dX1_firstPairAlike_36 rfl (lv_at hl 0 rfl) ?_
                refine lv_iadd hx hb dX1_firstPairAlike_37 ?_
                refine lz_top (y := nI (10 * k + j)) (by simp only [fa_lit, pk_mul, nI_add]) ?_
                exact ro_iret hx hb hr hlk dX1_firstPairAlike_38 (Or.inl ⟨k, j, hj.1, hj2, c_29, rfl, hno, hnd⟩)
        obtain rfl : x_1 = nI (k + 1) := by rw [ex_1]; exact nI_1 _
        exact J_14 _ (k + 1) (by omega) (fun b h h2 => absurd h (by omega)) (Nat.lt_succ_self _) _ (lv_sub hl [0, 1, 2, 3] rfl)
  exact J_2 _ 0 (by omega) (fun a b h _ _ => absurd h (Nat.not_lt_zero a)) (Nat.lt_succ_self _) _ (lv_sub hl [0, 1, 2] rfl)
set_option maxHeartbeats 4000000 in
set_option maxRecDepth 100000 in
theorem c_X1_isClickedSo (l : Launch) (G : lzG) (h : Nat) (q : Nat → Nat) (S : Nat → Int32) (F : Nat → Nat → Int32) (t : Nat) (g : Nat → Int32) (kind share : Int32) (i M : Nat) (hM : S 3 = nI M) (hM5 : M ≤ 5) (hi : i + M ≤ 40) : Met l yX1_isClickedSo wsX1_isClickedSo ({ frames := 2, cells := 0, slots := 0, locals := 46 }) (va_Pc [.ref h, .int kind, .int share, .ref t, .int (nI i)] (roP G (lzDoor G h q S F ++ lzI G t 40 g))) (vp_Si (fun r : Int32 => r = b2 (allI (fun v => decide (g (i + v) = b2 (clkI kind share (F 9 v) (F 10 v)))) M))) 0 0 (fun _ => False) := by
  refine ro_start (cc := cX1_isClickedSo) (maxL := 7) (ret := (some .boolean)) (by decide) rfl (Nat.le_of_ble_eq_true rfl) ?_
  intro pp ee ss mm bl me cd hx hb hr hlk hml hts hown hP hK ls hl
  have hown : ss.vm.findClass RX1 = some mm.cls := hown
  have hw1 := hts (.fieldLink RX1 21 "LampSquares$Door" "visitors" "I") (List.mem_of_getElem? (i := 1) rfl)
  have hw2 := hts (.fieldLink RX1 40 "LampSquares$Door" "careOf" "[I") (List.mem_of_getElem? (i := 2) rfl)
  have hw3 := hts (.fieldLink RX1 43 "LampSquares$Door" "earOf" "[I") (List.mem_of_getElem? (i := 3) rfl)
  have hw4 := hts (.static yX3_isClickedBy) (List.mem_of_getElem? (i := 4) rfl)
  have hw5 := hts (.initialized RX3) (List.mem_of_getElem? (i := 5) rfl)
  have hu_wsX10 : ∀ w ∈ wsX10, w.before ([.ref h, .int kind, .int share, .ref t, .int (nI i)] : List Value).toArray ss = true := fun w h9 => hts w (List.mem_cons_of_mem _ (List.mem_append_right _ h9))
  have hl : lv_has ls 7 [(0, .ref h), (1, .int kind), (2, .int share), (3, .ref t), (4, .int (nI i))] := hl
  refine lv_iconst (v := 0) hx hb dX1_isClickedSo_0 (by decide) ?_
  refine lv_istore (lv' := [(5, .int 0), (0, .ref h), (1, .int kind), (2, .int share), (3, .ref t), (4, .int (nI i))]) hx hb dX1_isClickedSo_1 hl (by decide) rfl (fun ls hl => ?_)
  have J_3 : ∀ (n9 : Nat), ∀ (k : Nat), (k ≤ M) → (allI (fun v => decide (g (i + v) = b2 (clkI kind share (F 9 v) (F 10 v)))) k = true) → M - k < n9 → ∀ ls : Array Slot, lv_has ls 7 [(5, .int (nI k)), (0, .ref h), (1, .int kind), (2, .int share), (3, .ref t), (4, .int (nI i))] → W pp l ee ({ frames := 2, cells := 0, slots := 0, locals := 46 }) ss mm ([.ref h, .int kind, .int share, .ref t, .int (nI i)] : List Value).toArray bl me cd ss.heap [] 0 0 (MQ bl (vp_Si (fun r : Int32 => r = b2 (allI (fun v => decide (g (i + v) = b2 (clkI kind share (F 9 v) (F 10 v)))) M))) ([.ref h, .int kind, .int share, .ref t, .int (nI i)] : List Value).toArray ss 0 0 (fun _ => False)) (F0 mm 3 ls []) := by
    intro n9
    induction n9 with
    | zero => intro k hk hall hn; exact absurd hn (Nat.not_lt_zero _)
    | succ n9 ih_3 =>
      intro k hk hall hn_3 ls hl
      refine lv_iload hx hb dX1_isClickedSo_3 (lv_at hl 0 rfl) ?_
      refine lv_aload_n hx hb dX1_isClickedSo_5 rfl (lv_at hl 1 rfl) ?_
      refine lz_get (G := G) (ci := 1) (v := .int (S 3)) (C := RX1) (T := TX1) (N := 14) hx hb hu_wsX10 (fun _ h9 => h9) hown hK hP 0 rfl rfl 3 (by decide) hw1 rfl rfl dX1_isClickedSo_6 ?_
      refine lv_icmp_ge (tgt := 61) hx hb dX1_isClickedSo_9 (by decide) (fun c_9 => ?_) (fun c_9 => ?_)
      · skip
        have c_9' := Int32.not_lt.mpr c_9
        have hk2 : M ≤ k := lz_ge hM c_9 (by omega) (by omega)
        obtain rfl : k = M := by omega
        refine lv_iconst (v := 1) hx hb dX1_isClickedSo_61 (by decide) ?_
        exact ro_zret hx hb hr hlk dX1_isClickedSo_62 (by rw [hall]; rfl)
      · skip
        have c_9' := Int32.not_le.mp c_9
        have hk2 : k < M := lz_lt hM c_9 (by omega) (by omega)
        refine lv_aload_n hx hb dX1_isClickedSo_12 rfl (lv_at hl 1 rfl) ?_
        refine lz_get (G := G) (ci := 1) (v := .ref (q 9)) (C := RX1) (T := TX1) (N := 14) hx hb hu_wsX10 (fun _ h9 => h9) hown hK hP 0 rfl rfl 9 (by decide) hw2 rfl rfl dX1_isClickedSo_13 ?_
        refine lv_iload hx hb dX1_isClickedSo_16 (lv_at hl 0 rfl) ?_
        refine lz_iald (f := F 9) hx hb hK hP 6 rfl k (by omega) (Nat.le_of_ble_eq_true rfl) dX1_isClickedSo_18 ?_
        refine lv_aload_n hx hb dX1_isClickedSo_19 rfl (lv_at hl 1 rfl) ?_
        refine lz_get (G := G) (ci := 1) (v := .ref (q 10)) (C := RX1) (T := TX1) (N := 14) hx hb hu_wsX10 (fun _ h9 => h9) hown hK hP 0 rfl rfl 10 (by decide) hw3 rfl rfl dX1_isClickedSo_20 ?_
        refine lv_iload hx hb dX1_isClickedSo_23 (lv_at hl 0 rfl) ?_
        refine lz_iald (f := F 10) hx hb hK hP 7 rfl k (by omega) (Nat.le_of_ble_eq_true rfl) dX1_isClickedSo_25 ?_
        refine lv_iload_n hx hb dX1_isClickedSo_26 rfl (lv_at hl 2 rfl) ?_
        refine lv_iload_n hx hb dX1_isClickedSo_27 rfl (lv_at hl 3 rfl) ?_
        refine ro_calli (va_runSN (As := [.int ((F 9) k), .int ((F 10) k), .int kind, .int share]) (rest := []) ⟨hx, hb, hml, hown, hts⟩ (c_X3_isClickedBy l G ((F 9) k) ((F 10) k) kind share ) (⟨va_cnB (host := RX3) 4 hts gX1_isClickedSo_X3_isClickedBy_n84 rfl rfl rfl (hK.2 _ (List.mem_of_getElem? (i := 2) rfl)) hw5 (by decide +kernel) ⟨Nat.le_of_ble_eq_true rfl, Nat.le_of_ble_eq_true rfl⟩, hw4, trivial⟩) (ro_pre hK (fun k q h => by simp at h)) rfl rfl hl.1 rfl (lv_room (Nat.le_of_ble_eq_true rfl)) dX1_isClickedSo_28 ⟨Nat.zero_le _, Nat.zero_le _⟩) (fun r_1 hr_1 => ?_)
        refine lv_istore (lv' := [(6, .int r_1), (5, .int (nI k)), (0, .ref h), (1, .int kind), (2, .int share), (3, .ref t), (4, .int (nI i))]) hx hb dX1_isClickedSo_31 hl (by decide) rfl (fun ls hl => ?_)
        refine lv_aload_n hx hb dX1_isClickedSo_33 rfl (lv_at hl 5 rfl) ?_
        refine lv_iload hx hb dX1_isClickedSo_34 (lv_at hl 6 rfl) ?_
        refine lv_iload hx hb dX1_isClickedSo_36 (lv_at hl 1 rfl) ?_
        refine lv_iadd hx hb dX1_isClickedSo_38 ?_
        refine lz_top (y := nI (i + k)) (nI_add _ _) ?_
        refine lz_iald (f := g) hx hb hK hP 11 rfl (i + k) (by omega) (Nat.le_of_ble_eq_true rfl) dX1_isClickedSo_39 ?_
        refine lv_iload hx hb dX1_isClickedSo_40 (lv_at hl 0 rfl) ?_
        refine lv_if_eq (tgt := 49) hx hb dX1_isClickedSo_42 (by decide) (fun c_42 => ?_) (fun c_42 => ?_)
        · skip
          have c_42 := b2_z hr_1 c_42
          refine lv_iconst (v := 0) hx hb dX1_isClickedSo_49 (by decide) ?_
          refine lv_icmp_eq (tgt := 55) hx hb dX1_isClickedSo_50 (by decide) (fun c_50 => ?_) (fun c_50 => ?_)
          · skip
            refine lv_iinc (v := nI (k + 1)) (lv' := [(5, .int (nI (k + 1))), (6, .int r_1), (0, .ref h), (1, .int kind), (2, .int share), (3, .ref t), (4, .int (nI i))]) hx hb dX1_isClickedSo_55 hl (k := 1) rfl (nI_1 _) (by decide) rfl (fun ls hl => ?_)
            refine lv_goto (tgt := 3) hx hb dX1_isClickedSo_58 (by decide) ?_
            exact ih_3 (k + 1) (by omega) (by simp only [allI, hall, Bool.true_and]; simp [b2, c_9, c_9', c_42, c_50]) (by omega) _ (lv_sub hl [0, 2, 3, 4, 5, 6] rfl)
          · skip
            refine lv_iconst (v := 0) hx hb dX1_isClickedSo_53 (by decide) ?_
            exact ro_zret hx hb hr hlk dX1_isClickedSo_54 (by rw [allI_f (k := k) (by simp [b2, c_9, c_9', c_42, c_50]) hk2]; rfl)
        · skip
          have c_42 := b2_n hr_1 c_42
          refine lv_iconst (v := 1) hx hb dX1_isClickedSo_45 (by decide) ?_
          refine lv_goto (tgt := 50) hx hb dX1_isClickedSo_46 (by decide) ?_
          refine lv_icmp_eq (tgt := 55) hx hb dX1_isClickedSo_50 (by decide) (fun c_50 => ?_) (fun c_50 => ?_)
          · skip
            refine lv_iinc (v := nI (k + 1)) (lv' := [(5, .int (nI (k + 1))), (6, .int r_1), (0, .ref h), (1, .int kind), (2, .int share), (3, .ref t), (4, .int (nI i))]) hx hb dX1_isClickedSo_55 hl (k := 1) rfl (nI_1 _) (by decide) rfl (fun ls hl => ?_)
            refine lv_goto (tgt := 3) hx hb dX1_isClickedSo_58 (by decide) ?_
            exact ih_3 (k + 1) (by omega) (by simp only [allI, hall, Bool.true_and]; simp [b2, c_9, c_9', c_42, c_50]) (by omega) _ (lv_sub hl [0, 2, 3, 4, 5, 6] rfl)
          · skip
            refine lv_iconst (v := 0) hx hb dX1_isClickedSo_53 (by decide) ?_
            exact ro_zret hx hb hr hlk dX1_isClickedSo_54 (by rw [allI_f (k := k) (by simp [b2, c_9, c_9', c_42, c_50]) hk2]; rfl)
  exact J_3 _ 0 (by omega) (rfl) (Nat.lt_succ_self _) _ (lv_sub hl [0, 1, 2, 3, 4, 5] rfl)
set_option maxHeartbeats 4000000 in
set_option maxRecDepth 100000 in
theorem c_X1_wouldClickSo (l : Launch) (G : lzG) (h : Nat) (q : Nat → Nat) (S : Nat → Int32) (F : Nat → Nat → Int32) (t : Nat) (g : Nat → Int32) (care ear : Int32) (i N : Nat) (hN : S 2 = nI N) (hN8 : N ≤ 8) (hi : i + N ≤ 40) : Met l yX1_wouldClickSo wsX1_wouldClickSo ({ frames := 2, cells := 0, slots := 0, locals := 46 }) (va_Pc [.ref h, .int care, .int ear, .ref t, .int (nI i)] (roP G (lzDoor G h q S F ++ lzI G t 40 g))) (vp_Si (fun r : Int32 => r = b2 (allI (fun s => decide (g (i + s) = b2 (clkI (F 4 s) (F 5 s) care ear))) N))) 0 0 (fun _ => False) := by
  refine ro_start (cc := cX1_wouldClickSo) (maxL := 7) (ret := (some .boolean)) (by decide) rfl (Nat.le_of_ble_eq_true rfl) ?_
  intro pp ee ss mm bl me cd hx hb hr hlk hml hts hown hP hK ls hl
  have hown : ss.vm.findClass RX1 = some mm.cls := hown
  have hw1 := hts (.fieldLink RX1 18 "LampSquares$Door" "squares" "I") (List.mem_of_getElem? (i := 1) rfl)
  have hw2 := hts (.fieldLink RX1 24 "LampSquares$Door" "kindOf" "[I") (List.mem_of_getElem? (i := 2) rfl)
  have hw3 := hts (.fieldLink RX1 28 "LampSquares$Door" "shareOf" "[I") (List.mem_of_getElem? (i := 3) rfl)
  have hw4 := hts (.static yX3_isClickedBy) (List.mem_of_getElem? (i := 4) rfl)
  have hw5 := hts (.initialized RX3) (List.mem_of_getElem? (i := 5) rfl)
  have hu_wsX10 : ∀ w ∈ wsX10, w.before ([.ref h, .int care, .int ear, .ref t, .int (nI i)] : List Value).toArray ss = true := fun w h9 => hts w (List.mem_cons_of_mem _ (List.mem_append_right _ h9))
  have hl : lv_has ls 7 [(0, .ref h), (1, .int care), (2, .int ear), (3, .ref t), (4, .int (nI i))] := hl
  refine lv_iconst (v := 0) hx hb dX1_wouldClickSo_0 (by decide) ?_
  refine lv_istore (lv' := [(5, .int 0), (0, .ref h), (1, .int care), (2, .int ear), (3, .ref t), (4, .int (nI i))]) hx hb dX1_wouldClickSo_1 hl (by decide) rfl (fun ls hl => ?_)
  have J_3 : ∀ (n9 : Nat), ∀ (k : Nat), (k ≤ N) → (allI (fun s => decide (g (i + s) = b2 (clkI (F 4 s) (F 5 s) care ear))) k = true) → N - k < n9 → ∀ ls : Array Slot, lv_has ls 7 [(5, .int (nI k)), (0, .ref h), (1, .int care), (2, .int ear), (3, .ref t), (4, .int (nI i))] → W pp l ee ({ frames := 2, cells := 0, slots := 0, locals := 46 }) ss mm ([.ref h, .int care, .int ear, .ref t, .int (nI i)] : List Value).toArray bl me cd ss.heap [] 0 0 (MQ bl (vp_Si (fun r : Int32 => r = b2 (allI (fun s => decide (g (i + s) = b2 (clkI (F 4 s) (F 5 s) care ear))) N))) ([.ref h, .int care, .int ear, .ref t, .int (nI i)] : List Value).toArray ss 0 0 (fun _ => False)) (F0 mm 3 ls []) := by
    intro n9
    induction n9 with
    | zero => intro k hk hall hn; exact absurd hn (Nat.not_lt_zero _)
    | succ n9 ih_3 =>
      intro k hk hall hn_3 ls hl
      refine lv_iload hx hb dX1_wouldClickSo_3 (lv_at hl 0 rfl) ?_
      refine lv_aload_n hx hb dX1_wouldClickSo_5 rfl (lv_at hl 1 rfl) ?_
      refine lz_get (G := G) (ci := 1) (v := .int (S 2)) (C := RX1) (T := TX1) (N := 14) hx hb hu_wsX10 (fun _ h9 => h9) hown hK hP 0 rfl rfl 2 (by decide) hw1 rfl rfl dX1_wouldClickSo_6 ?_
      refine lv_icmp_ge (tgt := 61) hx hb dX1_wouldClickSo_9 (by decide) (fun c_9 => ?_) (fun c_9 => ?_)
      · skip
        have c_9' := Int32.not_lt.mpr c_9
        have hk2 : N ≤ k := lz_ge hN c_9 (by omega) (by omega)
        obtain rfl : k = N := by omega
        refine lv_iconst (v := 1) hx hb dX1_wouldClickSo_61 (by decide) ?_
        exact ro_zret hx hb hr hlk dX1_wouldClickSo_62 (by rw [hall]; rfl)
      · skip
        have c_9' := Int32.not_le.mp c_9
        have hk2 : k < N := lz_lt hN c_9 (by omega) (by omega)
        refine lv_iload_n hx hb dX1_wouldClickSo_12 rfl (lv_at hl 2 rfl) ?_
        refine lv_iload_n hx hb dX1_wouldClickSo_13 rfl (lv_at hl 3 rfl) ?_
        refine lv_aload_n hx hb dX1_wouldClickSo_14 rfl (lv_at hl 1 rfl) ?_
        refine lz_get (G := G) (ci := 1) (v := .ref (q 4)) (C := RX1) (T := TX1) (N := 14) hx hb hu_wsX10 (fun _ h9 => h9) hown hK hP 0 rfl rfl 4 (by decide) hw2 rfl rfl dX1_wouldClickSo_15 ?_
        refine lv_iload hx hb dX1_wouldClickSo_18 (lv_at hl 0 rfl) ?_
        refine lz_iald (f := F 4) hx hb hK hP 1 rfl k (by omega) (Nat.le_of_ble_eq_true rfl) dX1_wouldClickSo_20 ?_
        refine lv_aload_n hx hb dX1_wouldClickSo_21 rfl (lv_at hl 1 rfl) ?_
        refine lz_get (G := G) (ci := 1) (v := .ref (q 5)) (C := RX1) (T := TX1) (N := 14) hx hb hu_wsX10 (fun _ h9 => h9) hown hK hP 0 rfl rfl 5 (by decide) hw3 rfl rfl dX1_wouldClickSo_22 ?_
        refine lv_iload hx hb dX1_wouldClickSo_25 (lv_at hl 0 rfl) ?_
        refine lz_iald (f := F 5) hx hb hK hP 2 rfl k (by omega) (Nat.le_of_ble_eq_true rfl) dX1_wouldClickSo_27 ?_
        refine ro_calli (va_runSN (As := [.int care, .int ear, .int ((F 4) k), .int ((F 5) k)]) (rest := []) ⟨hx, hb, hml, hown, hts⟩ (c_X3_isClickedBy l G care ear ((F 4) k) ((F 5) k) ) (⟨va_cnB (host := RX3) 4 hts gX1_wouldClickSo_X3_isClickedBy_n84 rfl rfl rfl (hK.2 _ (List.mem_of_getElem? (i := 2) rfl)) hw5 (by decide +kernel) ⟨Nat.le_of_ble_eq_true rfl, Nat.le_of_ble_eq_true rfl⟩, hw4, trivial⟩) (ro_pre hK (fun k q h => by simp at h)) rfl rfl hl.1 rfl (lv_room (Nat.le_of_ble_eq_true rfl)) dX1_wouldClickSo_28 ⟨Nat.zero_le _, Nat.zero_le _⟩) (fun r_1 hr_1 => ?_)
        refine lv_istore (lv' := [(6, .int r_1), (5, .int (nI k)), (0, .ref h), (1, .int care), (2, .int ear), (3, .ref t), (4, .int (nI i))]) hx hb dX1_wouldClickSo_31 hl (by decide) rfl (fun ls hl => ?_)
        refine lv_aload_n hx hb dX1_wouldClickSo_33 rfl (lv_at hl 5 rfl) ?_
        refine lv_iload hx hb dX1_wouldClickSo_34 (lv_at hl 6 rfl) ?_
        refine lv_iload hx hb dX1_wouldClickSo_36 (lv_at hl 1 rfl) ?_
        refine lv_iadd hx hb dX1_wouldClickSo_38 ?_
        refine lz_top (y := nI (i + k)) (nI_add _ _) ?_
        refine lz_iald (f := g) hx hb hK hP 11 rfl (i + k) (by omega) (Nat.le_of_ble_eq_true rfl) dX1_wouldClickSo_39 ?_
        refine lv_iload hx hb dX1_wouldClickSo_40 (lv_at hl 0 rfl) ?_
        refine lv_if_eq (tgt := 49) hx hb dX1_wouldClickSo_42 (by decide) (fun c_42 => ?_) (fun c_42 => ?_)
        · skip
          have c_42 := b2_z hr_1 c_42
          refine lv_iconst (v := 0) hx hb dX1_wouldClickSo_49 (by decide) ?_
          refine lv_icmp_eq (tgt := 55) hx hb dX1_wouldClickSo_50 (by decide) (fun c_50 => ?_) (fun c_50 => ?_)
          · skip
            refine lv_iinc (v := nI (k + 1)) (lv' := [(5, .int (nI (k + 1))), (6, .int r_1), (0, .ref h), (1, .int care), (2, .int ear), (3, .ref t), (4, .int (nI i))]) hx hb dX1_wouldClickSo_55 hl (k := 1) rfl (nI_1 _) (by decide) rfl (fun ls hl => ?_)
            refine lv_goto (tgt := 3) hx hb dX1_wouldClickSo_58 (by decide) ?_
            exact ih_3 (k + 1) (by omega) (by simp only [allI, hall, Bool.true_and]; simp [b2, c_9, c_9', c_42, c_50]) (by omega) _ (lv_sub hl [0, 2, 3, 4, 5, 6] rfl)
          · skip
            refine lv_iconst (v := 0) hx hb dX1_wouldClickSo_53 (by decide) ?_
            exact ro_zret hx hb hr hlk dX1_wouldClickSo_54 (by rw [allI_f (k := k) (by simp [b2, c_9, c_9', c_42, c_50]) hk2]; rfl)
        · skip
          have c_42 := b2_n hr_1 c_42
          refine lv_iconst (v := 1) hx hb dX1_wouldClickSo_45 (by decide) ?_
          refine lv_goto (tgt := 50) hx hb dX1_wouldClickSo_46 (by decide) ?_
          refine lv_icmp_eq (tgt := 55) hx hb dX1_wouldClickSo_50 (by decide) (fun c_50 => ?_) (fun c_50 => ?_)
          · skip
            refine lv_iinc (v := nI (k + 1)) (lv' := [(5, .int (nI (k + 1))), (6, .int r_1), (0, .ref h), (1, .int care), (2, .int ear), (3, .ref t), (4, .int (nI i))]) hx hb dX1_wouldClickSo_55 hl (k := 1) rfl (nI_1 _) (by decide) rfl (fun ls hl => ?_)
            refine lv_goto (tgt := 3) hx hb dX1_wouldClickSo_58 (by decide) ?_
            exact ih_3 (k + 1) (by omega) (by simp only [allI, hall, Bool.true_and]; simp [b2, c_9, c_9', c_42, c_50]) (by omega) _ (lv_sub hl [0, 2, 3, 4, 5, 6] rfl)
          · skip
            refine lv_iconst (v := 0) hx hb dX1_wouldClickSo_53 (by decide) ?_
            exact ro_zret hx hb hr hlk dX1_wouldClickSo_54 (by rw [allI_f (k := k) (by simp [b2, c_9, c_9', c_42, c_50]) hk2]; rfl)
  exact J_3 _ 0 (by omega) (rfl) (Nat.lt_succ_self _) _ (lv_sub hl [0, 1, 2, 3, 4, 5] rfl)
