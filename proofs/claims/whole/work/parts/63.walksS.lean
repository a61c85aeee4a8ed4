set_option maxHeartbeats 4000000 in
set_option maxRecDepth 100000 in
theorem c_J0_coder_7d493 (l : Launch) (G : lzG) (aK aV : Nat)  : Met l yJ0_coder_7d493 wsJ0_coder_7d493 ({ frames := 0, cells := 0, slots := 0, locals := 0 }) (va_Pc [.ref aK] (rosP G ([] : va_W) aK aV)) (vp_Si (fun r => r = 0)) 0 0 (fun _ => False) := by
  refine ros_start (cc := cJ0_coder_7d493) (maxL := 1) (ret := (some .byte)) (by decide) rfl (Nat.le_of_ble_eq_true rfl) ?_
  intro pp ee ss mm bl me cd hx hb hr hlk hml hts hown hP hK hSt ls hl
  have hown : ss.vm.findClass RJ0 = some mm.cls := hown
  have hw1 := hts (.fieldLink RJ0 38 "java/lang/String" "COMPACT_STRINGS" "Z") (List.mem_of_getElem? (i := 1) rfl)
  have hw2 := hts (.fieldLink RJ0 15 "java/lang/String" "coder" "B") (List.mem_of_getElem? (i := 2) rfl)
  have hl : lv_has ls 1 [(0, .ref aK)] := hl
  refine va_gets hx hb hSt.2.2.2.2.1 va_S.rf hown hw1 (fun _ h9 => h9) dJ0_coder_7d493_0 ?_
  refine lv_if_eq (tgt := 13) hx hb dJ0_coder_7d493_3 (by decide) (fun c_3 => ?_) (fun c_3 => ?_)
  · skip
    exact False.elim (by revert c_3; decide)
  · skip
    refine lv_aload_n hx hb dJ0_coder_7d493_6 rfl (lv_at hl 0 rfl) ?_
    refine vk_getf hx hb hSt.2.1 va_S.rf hown hw2 (fun _ h9 => h9) dJ0_coder_7d493_7 ?_
    refine lv_goto (tgt := 14) hx hb dJ0_coder_7d493_10 (by decide) ?_
    exact ro_bret hx hb hr hlk rfl dJ0_coder_7d493_14 (rfl)
set_option maxHeartbeats 4000000 in
set_option maxRecDepth 100000 in
theorem c_J0_isLatin1_aae02 (l : Launch) (G : lzG) (aK aV : Nat)  : Met l yJ0_isLatin1_aae02 wsJ0_isLatin1_aae02 ({ frames := 0, cells := 0, slots := 0, locals := 0 }) (va_Pc [.ref aK] (rosP G ([] : va_W) aK aV)) (vp_Si (fun r : Int32 => r = b2 (true))) 0 0 (fun _ => False) := by
  refine ros_start (cc := cJ0_isLatin1_aae02) (maxL := 1) (ret := (some .boolean)) (by decide) rfl (Nat.le_of_ble_eq_true rfl) ?_
  intro pp ee ss mm bl me cd hx hb hr hlk hml hts hown hP hK hSt ls hl
  have hown : ss.vm.findClass RJ0 = some mm.cls := hown
  have hw1 := hts (.fieldLink RJ0 38 "java/lang/String" "COMPACT_STRINGS" "Z") (List.mem_of_getElem? (i := 1) rfl)
  have hw2 := hts (.fieldLink RJ0 15 "java/lang/String" "coder" "B") (List.mem_of_getElem? (i := 2) rfl)
  have hl : lv_has ls 1 [(0, .ref aK)] := hl
  refine va_gets hx hb hSt.2.2.2.2.1 va_S.rf hown hw1 (fun _ h9 => h9) dJ0_isLatin1_aae02_0 ?_
  refine lv_if_eq (tgt := 17) hx hb dJ0_isLatin1_aae02_3 (by decide) (fun c_3 => ?_) (fun c_3 => ?_)
  · skip
    exact False.elim (by revert c_3; decide)
  · skip
    refine lv_aload_n hx hb dJ0_isLatin1_aae02_6 rfl (lv_at hl 0 rfl) ?_
    refine vk_getf hx hb hSt.2.1 va_S.rf hown hw2 (fun _ h9 => h9) dJ0_isLatin1_aae02_7 ?_
    refine lv_if_ne (tgt := 17) hx hb dJ0_isLatin1_aae02_10 (by decide) (fun c_10 => ?_) (fun c_10 => ?_)
    · skip
      exact False.elim (by revert c_10; decide)
    · skip
      refine lv_iconst (v := 1) hx hb dJ0_isLatin1_aae02_13 (by decide) ?_
      refine lv_goto (tgt := 18) hx hb dJ0_isLatin1_aae02_14 (by decide) ?_
      exact ro_zret hx hb hr hlk dJ0_isLatin1_aae02_18 (rfl)
set_option maxHeartbeats 4000000 in
set_option maxRecDepth 100000 in
theorem c_J0_length_8abf5 (l : Launch) (G : lzG) (aK aV : Nat)  : Met l yJ0_length_8abf5 wsJ0_length_8abf5 ({ frames := 1, cells := 0, slots := 0, locals := 20 }) (va_Pc [.ref aK] (rosP G ([] : va_W) aK aV)) (vp_Si (fun r => r = 5)) 0 0 (fun _ => False) := by
  refine ros_start (cc := cJ0_length_8abf5) (maxL := 1) (ret := (some .int)) (by decide) rfl (Nat.le_of_ble_eq_true rfl) ?_
  intro pp ee ss mm bl me cd hx hb hr hlk hml hts hown hP hK hSt ls hl
  have hown : ss.vm.findClass RJ0 = some mm.cls := hown
  have hw1 := hts (.fieldLink RJ0 9 "java/lang/String" "value" "[B") (List.mem_of_getElem? (i := 1) rfl)
  have hl : lv_has ls 1 [(0, .ref aK)] := hl
  refine lv_aload_n hx hb dJ0_length_8abf5_0 rfl (lv_at hl 0 rfl) ?_
  refine vk_getf hx hb hSt.2.2.1 va_S.rf hown hw1 (fun _ h9 => h9) dJ0_length_8abf5_1 ?_
  refine va_tlen hx hb hSt.2.2.2.1 va_S.rf (v := 5) rfl dJ0_length_8abf5_4 ?_
  refine lv_aload_n hx hb dJ0_length_8abf5_5 rfl (lv_at hl 0 rfl) ?_
  refine ro_calli (va_runV (As := []) (rest := [.int 5]) ⟨hx, hb, hml, hown, hts⟩ (c_J0_coder_7d493 l G aK aV ) (cwV 0 hts gJ0_length_8abf5_J0_coder_7d493 rfl rfl rfl (by decide +kernel) ⟨Nat.le_of_ble_eq_true rfl, Nat.le_of_ble_eq_true rfl⟩) (ros_preV hK (fun k q h => by simp at h) hSt va_S.rf (str_recv hSt va_S.rf)) rfl rfl hl.1 rfl (lv_room (Nat.le_of_ble_eq_true rfl)) dJ0_length_8abf5_6 ⟨Nat.zero_le _, Nat.zero_le _⟩) (fun r_1 hr_1 => ?_)
  refine lz_top (y := 0) hr_1 ?_
  refine lv_ishr hx hb dJ0_length_8abf5_9 ?_
  refine lz_top (y := 5) (by decide) ?_
  exact ro_iret hx hb hr hlk dJ0_length_8abf5_10 (rfl)
set_option maxHeartbeats 4000000 in
set_option maxRecDepth 100000 in
theorem c_J1_canEncode_9a6ad (l : Launch) (G : lzG) (c : Int32) (hc : inR c 0 255 = true) : Met l yJ1_canEncode_9a6ad wsJ1_canEncode_9a6ad ({ frames := 0, cells := 0, slots := 0, locals := 0 }) (va_Pc [.int c] (roP G ([] : va_W))) (vp_Si (fun r : Int32 => r = b2 (true))) 0 0 (fun _ => False) := by
  refine ro_start (cc := cJ1_canEncode_9a6ad) (maxL := 1) (ret := (some .boolean)) (by decide) rfl (Nat.le_of_ble_eq_true rfl) ?_
  intro pp ee ss mm bl me cd hx hb hr hlk hml hts hown hP hK ls hl
  have hown : ss.vm.findClass RJ1 = some mm.cls := hown
  have hl : lv_has ls 1 [(0, .int c)] := hl
  refine lv_iload_n hx hb dJ1_canEncode_9a6ad_0 rfl (lv_at hl 0 rfl) ?_
  refine lv_if_lt (tgt := 15) hx hb dJ1_canEncode_9a6ad_1 (by decide) (fun c_1 => ?_) (fun c_1 => ?_)
  · skip
    have c_1' := Int32.not_le.mpr c_1
    exact absurd hc (by rw [inR_f1 c_1]; decide)
  · skip
    have c_1' := Int32.not_lt.mp c_1
    refine lv_iload_n hx hb dJ1_canEncode_9a6ad_4 rfl (lv_at hl 0 rfl) ?_
    refine lv_sipush (v := 255) hx hb dJ1_canEncode_9a6ad_5 (by decide) ?_
    refine lv_icmp_gt (tgt := 15) hx hb dJ1_canEncode_9a6ad_8 (by decide) (fun c_8 => ?_) (fun c_8 => ?_)
    · skip
      have c_8' := Int32.not_le.mpr c_8
      exact absurd hc (by rw [inR_f2 c_8]; decide)
    · skip
      have c_8' := Int32.not_lt.mp c_8
      refine lv_iconst (v := 1) hx hb dJ1_canEncode_9a6ad_11 (by decide) ?_
      refine lv_goto (tgt := 16) hx hb dJ1_canEncode_9a6ad_12 (by decide) ?_
      exact ro_zret hx hb hr hlk dJ1_canEncode_9a6ad_16 (rfl)
set_option maxHeartbeats 4000000 in
set_option maxRecDepth 100000 in
theorem c_J1_indexOfChar_4cfef (l : Launch) (G : lzG) (aK aV : Nat) (c : Int32)  : Met l yJ1_indexOfChar_4cfef wsJ1_indexOfChar_4cfef ({ frames := 0, cells := 0, slots := 0, locals := 0 }) (va_Pc [.ref aV, .int c, .int 0, .int 5] (rosP G ([] : va_W) aK aV)) (vp_Si (fun r => r = ixK c.toInt8.toInt32)) 0 0 (fun _ => False) := by
  refine ros_start (cc := cJ1_indexOfChar_4cfef) (maxL := 6) (ret := (some .int)) (by decide) rfl (Nat.le_of_ble_eq_true rfl) ?_
  intro pp ee ss mm bl me cd hx hb hr hlk hml hts hown hP hK hSt ls hl
  have hown : ss.vm.findClass RJ1 = some mm.cls := hown
  have hl : lv_has ls 6 [(0, .ref aV), (1, .int c), (2, .int 0), (3, .int 5)] := hl
  refine lv_iload_n hx hb dJ1_indexOfChar_4cfef_0 rfl (lv_at hl 1 rfl) ?_
  refine lv_i2b hx hb dJ1_indexOfChar_4cfef_1 rfl ?_
  refine lv_istore (lv' := [(4, .int c.toInt8.toInt32), (0, .ref aV), (1, .int c), (2, .int 0), (3, .int 5)]) hx hb dJ1_indexOfChar_4cfef_2 hl (by decide) rfl (fun ls hl => ?_)
  refine lv_iload_n hx hb dJ1_indexOfChar_4cfef_4 rfl (lv_at hl 3 rfl) ?_
  refine lv_istore (lv' := [(5, .int 0), (4, .int c.toInt8.toInt32), (0, .ref aV), (1, .int c), (2, .int 0), (3, .int 5)]) hx hb dJ1_indexOfChar_4cfef_5 hl (by decide) rfl (fun ls hl => ?_)
  have J_7 : ∀ (n9 : Nat), ∀ (k : Nat), (k ≤ 5) → (∀ j : Nat, j < k → ¬ kcB j = c.toInt8.toInt32) → 5 - k < n9 → ∀ ls : Array Slot, lv_has ls 6 [(5, .int (nI k)), (4, .int c.toInt8.toInt32), (0, .ref aV), (1, .int c), (2, .int 0), (3, .int 5)] → W pp l ee ({ frames := 0, cells := 0, slots := 0, locals := 0 }) ss mm ([.ref aV, .int c, .int 0, .int 5] : List Value).toArray bl me cd ss.heap [] 0 0 (MQ bl (vp_Si (fun r => r = ixK c.toInt8.toInt32)) ([.ref aV, .int c, .int 0, .int 5] : List Value).toArray ss 0 0 (fun _ => False)) (F0 mm 7 ls []) := by
    intro n9
    induction n9 with
    | zero => intro k hk hno hn; exact absurd hn (Nat.not_lt_zero _)
    | succ n9 ih_7 =>
      intro k hk hno hn_7 ls hl
      refine lv_iload hx hb dJ1_indexOfChar_4cfef_7 (lv_at hl 0 rfl) ?_
      refine lv_iload_n hx hb dJ1_indexOfChar_4cfef_9 rfl (lv_at hl 5 rfl) ?_
      refine lv_icmp_ge (tgt := 31) hx hb dJ1_indexOfChar_4cfef_10 (by decide) (fun c_10 => ?_) (fun c_10 => ?_)
      · skip
        have c_10' := Int32.not_lt.mpr c_10
        have hk2 : 5 ≤ k := lz_ge (N := 5) rfl c_10 (by omega) (by omega)
        have hk3 : k = 5 := by omega
        refine lv_iconst (v := (-1)) hx hb dJ1_indexOfChar_4cfef_31 (by decide) ?_
        exact ro_iret hx hb hr hlk dJ1_indexOfChar_4cfef_32 (ixK_no (by rw [hk3] at hno; exact hno))
      · skip
        have c_10' := Int32.not_le.mp c_10
        have hk2 : k < 5 := lz_lt (N := 5) rfl c_10 (by omega) (by omega)
        refine lv_aload_n hx hb dJ1_indexOfChar_4cfef_13 rfl (lv_at hl 2 rfl) ?_
        refine lv_iload hx hb dJ1_indexOfChar_4cfef_14 (lv_at hl 0 rfl) ?_
        refine va_tb hx hb hSt.2.2.2.1 va_S.rf (i := nI k) (vp_in_nI (by omega) (by decide)) (v := .int (kcB k)) (by show Value.int (kcB _) = _; rw [nI_clamp (by omega)]) dJ1_indexOfChar_4cfef_16 ?_
        refine lv_iload hx hb dJ1_indexOfChar_4cfef_17 (lv_at hl 1 rfl) ?_
        refine lv_icmp_ne (tgt := 25) hx hb dJ1_indexOfChar_4cfef_19 (by decide) (fun c_19 => ?_) (fun c_19 => ?_)
        · skip
          refine lv_iinc (v := nI (k + 1)) (lv' := [(5, .int (nI (k + 1))), (4, .int c.toInt8.toInt32), (0, .ref aV), (1, .int c), (2, .int 0), (3, .int 5)]) hx hb dJ1_indexOfChar_4cfef_25 hl (k := 0) rfl (nI_1 _) (by decide) rfl (fun ls hl => ?_)
          refine lv_goto (tgt := 7) hx hb dJ1_indexOfChar_4cfef_28 (by decide) ?_
          exact ih_7 (k + 1) (by omega) (fun j h9 => (Nat.lt_or_ge j k).elim (fun h8 => hno j h8) (fun h8 => by have h7 : j = k := (by omega); rw [h7]; exact c_19)) (by omega) _ (lv_sub hl [0, 1, 2, 3, 4, 5] rfl)
        · skip
          refine lv_iload hx hb dJ1_indexOfChar_4cfef_22 (lv_at hl 0 rfl) ?_
          exact ro_iret hx hb hr hlk dJ1_indexOfChar_4cfef_24 (ixK_at hk2 c_19)
  exact J_7 _ 0 (by omega) (fun j h9 => absurd h9 (Nat.not_lt_zero _)) (Nat.lt_succ_self _) _ (lv_sub hl [0, 1, 2, 3, 4, 5] rfl)
set_option maxHeartbeats 4000000 in
set_option maxRecDepth 100000 in
theorem c_J1_indexOf_4cfef (l : Launch) (G : lzG) (aK aV : Nat) (c : Int32) (hc : inR c 0 255 = true) : Met l yJ1_indexOf_4cfef wsJ1_indexOf_4cfef ({ frames := 1, cells := 0, slots := 0, locals := 25 }) (va_Pc [.ref aV, .int c, .int 0, .int 5] (rosP G ([] : va_W) aK aV)) (vp_Si (fun r => r = ixK c.toInt8.toInt32)) 0 0 (fun _ => False) := by
  refine ros_start (cc := cJ1_indexOf_4cfef) (maxL := 4) (ret := (some .int)) (by decide) rfl (Nat.le_of_ble_eq_true rfl) ?_
  intro pp ee ss mm bl me cd hx hb hr hlk hml hts hown hP hK hSt ls hl
  have hown : ss.vm.findClass RJ1 = some mm.cls := hown
  have hw1 := hts (.methodLink RJ1 92 Lib.Math.max.name) (List.mem_of_getElem? (i := 1) rfl)
  have hw2 := hts (.static Lib.Math.max.name) (List.mem_of_getElem? (i := 2) rfl)
  have hw3 := hts (.initialized "java/lang/Math") (List.mem_of_getElem? (i := 3) rfl)
  have hw4 := hts (.code Lib.Math.max.name Lib.Math.max.code 2 (some .int)) (List.mem_of_getElem? (i := 4) rfl)
  have hw5 := hts (.methodLink RJ1 38 Lib.Math.min.name) (List.mem_of_getElem? (i := 5) rfl)
  have hw6 := hts (.static Lib.Math.min.name) (List.mem_of_getElem? (i := 6) rfl)
  have hw7 := hts (.code Lib.Math.min.name Lib.Math.min.code 2 (some .int)) (List.mem_of_getElem? (i := 7) rfl)
  have hl : lv_has ls 4 [(0, .ref aV), (1, .int c), (2, .int 0), (3, .int 5)] := hl
  refine lv_iload_n hx hb dJ1_indexOf_4cfef_0 rfl (lv_at hl 1 rfl) ?_
  refine ro_calli (va_runS (As := [.int c]) (rest := []) ⟨hx, hb, hml, hown, hts⟩ (c_J1_canEncode_9a6ad l G c (hc)) (cwS 1 hts gJ1_indexOf_4cfef_J1_canEncode_9a6ad rfl rfl rfl (by decide +kernel) ⟨Nat.le_of_ble_eq_true rfl, Nat.le_of_ble_eq_true rfl⟩) (ro_pre hK (fun k q h => by simp at h)) rfl rfl hl.1 rfl (lv_room (Nat.le_of_ble_eq_true rfl)) dJ1_indexOf_4cfef_1 ⟨Nat.zero_le _, Nat.zero_le _⟩) (fun r_1 hr_1 => ?_)
  refine lv_if_ne (tgt := 9) hx hb dJ1_indexOf_4cfef_4 (by decide) (fun c_4 => ?_) (fun c_4 => ?_)
  · skip
    have c_4 := b2_n hr_1 c_4
    refine lv_iload_n hx hb dJ1_indexOf_4cfef_9 rfl (lv_at hl 2 rfl) ?_
    refine lv_iconst (v := 0) hx hb dJ1_indexOf_4cfef_10 (by decide) ?_
    refine va_mmax hx hb (hml.trans hl.1.symm) hown hw1 hw2 hw3 hw4 (Nat.le_of_ble_eq_true rfl) (Nat.le_of_ble_eq_true rfl) (Nat.zero_le _) (Nat.zero_le _) dJ1_indexOf_4cfef_11 ?_
    refine lz_top (y := 0) (by decide) ?_
    refine lv_istore_n (lv' := [(2, .int 0), (0, .ref aV), (1, .int c), (3, .int 5)]) hx hb dJ1_indexOf_4cfef_14 rfl hl (by decide) rfl (fun ls hl => ?_)
    refine lv_iload_n hx hb dJ1_indexOf_4cfef_15 rfl (lv_at hl 3 rfl) ?_
    refine lv_aload_n hx hb dJ1_indexOf_4cfef_16 rfl (lv_at hl 1 rfl) ?_
    refine va_tlen hx hb hSt.2.2.2.1 va_S.rf (v := 5) rfl dJ1_indexOf_4cfef_17 ?_
    refine va_mmin hx hb (hml.trans hl.1.symm) hown hw5 hw6 hw3 hw7 (Nat.le_of_ble_eq_true rfl) (Nat.le_of_ble_eq_true rfl) (Nat.zero_le _) (Nat.zero_le _) dJ1_indexOf_4cfef_18 ?_
    refine lz_top (y := 5) (by decide) ?_
    refine lv_istore_n (lv' := [(3, .int 5), (2, .int 0), (0, .ref aV), (1, .int c)]) hx hb dJ1_indexOf_4cfef_21 rfl hl (by decide) rfl (fun ls hl => ?_)
    refine lv_iload_n hx hb dJ1_indexOf_4cfef_22 rfl (lv_at hl 1 rfl) ?_
    refine lv_iload_n hx hb dJ1_indexOf_4cfef_23 rfl (lv_at hl 0 rfl) ?_
    refine lv_icmp_lt (tgt := 29) hx hb dJ1_indexOf_4cfef_24 (by decide) (fun c_24 => ?_) (fun c_24 => ?_)
    · skip
      refine lv_aload_n hx hb dJ1_indexOf_4cfef_29 rfl (lv_at hl 2 rfl) ?_
      refine lv_iload_n hx hb dJ1_indexOf_4cfef_30 rfl (lv_at hl 3 rfl) ?_
      refine lv_iload_n hx hb dJ1_indexOf_4cfef_31 rfl (lv_at hl 1 rfl) ?_
      refine lv_iload_n hx hb dJ1_indexOf_4cfef_32 rfl (lv_at hl 0 rfl) ?_
      refine ro_calli (va_runS (As := [.ref aV, .int c, .int 0, .int 5]) (rest := []) ⟨hx, hb, hml, hown, hts⟩ (c_J1_indexOfChar_4cfef l G aK aV c ) (cwS 4 hts gJ1_indexOf_4cfef_J1_indexOfChar_4cfef rfl rfl rfl (by decide +kernel) ⟨Nat.le_of_ble_eq_true rfl, Nat.le_of_ble_eq_true rfl⟩) (ros_pre hK (fun k q h => by simp at h) hSt va_S.rf) rfl rfl hl.1 rfl (lv_room (Nat.le_of_ble_eq_true rfl)) dJ1_indexOf_4cfef_33 ⟨Nat.zero_le _, Nat.zero_le _⟩) (fun r_2 hr_2 => ?_)
      refine lz_top (y := ixK c.toInt8.toInt32) hr_2 ?_
      exact ro_iret hx hb hr hlk dJ1_indexOf_4cfef_36 (rfl)
    · skip
      exact False.elim (by revert c_24; decide)
  · skip
    have c_4 := b2_z hr_1 c_4
    exact Bool.noConfusion ((rfl : true = true).symm.trans c_4)
set_option maxHeartbeats 4000000 in
set_option maxRecDepth 100000 in
theorem c_J0_indexOf_7cf53 (l : Launch) (G : lzG) (aK aV : Nat) (c : Int32) (hc : inR c 0 255 = true) : Met l yJ0_indexOf_7cf53 wsJ0_indexOf_7cf53 ({ frames := 2, cells := 0, slots := 0, locals := 48 }) (va_Pc [.ref aK, .int c, .int 0] (rosP G ([] : va_W) aK aV)) (vp_Si (fun r => r = ixK c.toInt8.toInt32)) 0 0 (fun _ => False) := by
  refine ros_start (cc := cJ0_indexOf_7cf53) (maxL := 3) (ret := (some .int)) (by decide) rfl (Nat.le_of_ble_eq_true rfl) ?_
  intro pp ee ss mm bl me cd hx hb hr hlk hml hts hown hP hK hSt ls hl
  have hown : ss.vm.findClass RJ0 = some mm.cls := hown
  have hw1 := hts (.fieldLink RJ0 9 "java/lang/String" "value" "[B") (List.mem_of_getElem? (i := 1) rfl)
  have hl : lv_has ls 3 [(0, .ref aK), (1, .int c), (2, .int 0)] := hl
  refine lv_aload_n hx hb dJ0_indexOf_7cf53_0 rfl (lv_at hl 0 rfl) ?_
  refine ro_calli (va_runV (As := []) (rest := []) ⟨hx, hb, hml, hown, hts⟩ (c_J0_isLatin1_aae02 l G aK aV ) (cwV 0 hts gJ0_indexOf_7cf53_J0_isLatin1_aae02 rfl rfl rfl (by decide +kernel) ⟨Nat.le_of_ble_eq_true rfl, Nat.le_of_ble_eq_true rfl⟩) (ros_preV hK (fun k q h => by simp at h) hSt va_S.rf (str_recv hSt va_S.rf)) rfl rfl hl.1 rfl (lv_room (Nat.le_of_ble_eq_true rfl)) dJ0_indexOf_7cf53_1 ⟨Nat.zero_le _, Nat.zero_le _⟩) (fun r_1 hr_1 => ?_)
  refine lv_if_eq (tgt := 23) hx hb dJ0_indexOf_7cf53_4 (by decide) (fun c_4 => ?_) (fun c_4 => ?_)
  · skip
    have c_4 := b2_z hr_1 c_4
    exact Bool.noConfusion ((rfl : true = true).symm.trans c_4)
  · skip
    have c_4 := b2_n hr_1 c_4
    refine lv_aload_n hx hb dJ0_indexOf_7cf53_7 rfl (lv_at hl 0 rfl) ?_
    refine vk_getf hx hb hSt.2.2.1 va_S.rf hown hw1 (fun _ h9 => h9) dJ0_indexOf_7cf53_8 ?_
    refine lv_iload_n hx hb dJ0_indexOf_7cf53_11 rfl (lv_at hl 1 rfl) ?_
    refine lv_iload_n hx hb dJ0_indexOf_7cf53_12 rfl (lv_at hl 2 rfl) ?_
    refine lv_aload_n hx hb dJ0_indexOf_7cf53_13 rfl (lv_at hl 0 rfl) ?_
    refine ro_calli (va_runV (As := []) (rest := [.int 0, .int c, .ref aV]) ⟨hx, hb, hml, hown, hts⟩ (c_J0_length_8abf5 l G aK aV ) (cwV 0 hts gJ0_indexOf_7cf53_J0_length_8abf5 rfl rfl rfl (by decide +kernel) ⟨Nat.le_of_ble_eq_true rfl, Nat.le_of_ble_eq_true rfl⟩) (ros_preV hK (fun k q h => by simp at h) hSt va_S.rf (str_recv hSt va_S.rf)) rfl rfl hl.1 rfl (lv_room (Nat.le_of_ble_eq_true rfl)) dJ0_indexOf_7cf53_14 ⟨Nat.zero_le _, Nat.zero_le _⟩) (fun r_2 hr_2 => ?_)
    refine lz_top (y := 5) hr_2 ?_
    refine ro_calli (va_runS (As := [.ref aV, .int c, .int 0, .int 5]) (rest := []) ⟨hx, hb, hml, hown, hts⟩ (c_J1_indexOf_4cfef l G aK aV c (hc)) (va_cwS 4 hts gJ0_indexOf_7cf53_J1_indexOf_4cfef rfl rfl rfl (by decide +kernel) ⟨Nat.le_of_ble_eq_true rfl, Nat.le_of_ble_eq_true rfl⟩) (ros_pre hK (fun k q h => by simp at h) hSt va_S.rf) rfl rfl hl.1 rfl (lv_room (Nat.le_of_ble_eq_true rfl)) dJ0_indexOf_7cf53_17 ⟨Nat.zero_le _, Nat.zero_le _⟩) (fun r_3 hr_3 => ?_)
    refine lz_top (y := ixK c.toInt8.toInt32) hr_3 ?_
    refine lv_goto (tgt := 36) hx hb dJ0_indexOf_7cf53_20 (by decide) ?_
    exact ro_iret hx hb hr hlk dJ0_indexOf_7cf53_36 (rfl)
set_option maxHeartbeats 4000000 in
set_option maxRecDepth 100000 in
theorem c_J0_indexOf_0f7a4 (l : Launch) (G : lzG) (aK aV : Nat) (c : Int32) (hc : inR c 0 255 = true) : Met l yJ0_indexOf_0f7a4 wsJ0_indexOf_0f7a4 ({ frames := 3, cells := 0, slots := 0, locals := 70 }) (va_Pc [.ref aK, .int c] (rosP G ([] : va_W) aK aV)) (vp_Si (fun r => r = ixK c.toInt8.toInt32)) 0 0 (fun _ => False) := by
  refine ros_start (cc := cJ0_indexOf_0f7a4) (maxL := 2) (ret := (some .int)) (by decide) rfl (Nat.le_of_ble_eq_true rfl) ?_
  intro pp ee ss mm bl me cd hx hb hr hlk hml hts hown hP hK hSt ls hl
  have hown : ss.vm.findClass RJ0 = some mm.cls := hown
  have hl : lv_has ls 2 [(0, .ref aK), (1, .int c)] := hl
  refine lv_aload_n hx hb dJ0_indexOf_0f7a4_0 rfl (lv_at hl 0 rfl) ?_
  refine lv_iload_n hx hb dJ0_indexOf_0f7a4_1 rfl (lv_at hl 1 rfl) ?_
  refine lv_iconst (v := 0) hx hb dJ0_indexOf_0f7a4_2 (by decide) ?_
  refine ro_calli (va_runV (As := [.int c, .int 0]) (rest := []) ⟨hx, hb, hml, hown, hts⟩ (c_J0_indexOf_7cf53 l G aK aV c (hc)) (cwV 2 hts gJ0_indexOf_0f7a4_J0_indexOf_7cf53 rfl rfl rfl (by decide +kernel) ⟨Nat.le_of_ble_eq_true rfl, Nat.le_of_ble_eq_true rfl⟩) (ros_preV hK (fun k q h => by simp at h) hSt va_S.rf (str_recv hSt va_S.rf)) rfl rfl hl.1 rfl (lv_room (Nat.le_of_ble_eq_true rfl)) dJ0_indexOf_0f7a4_3 ⟨Nat.zero_le _, Nat.zero_le _⟩) (fun r_1 hr_1 => ?_)
  refine lz_top (y := ixK c.toInt8.toInt32) hr_1 ?_
  exact ro_iret hx hb hr hlk dJ0_indexOf_0f7a4_6 (rfl)
set_option maxHeartbeats 4000000 in
set_option maxRecDepth 100000 in
theorem c_X2_kindHere (l : Launch) (G : lzG) (u : Nat) (q : Nat → Nat) (S : Nat → Int32) (tb : Nat → Int32) (L : Nat) (z : Int32 × Nat) (aK aV : Nat) (hL : S 1 = nI L) (hL1 : L ≤ 120) (hz1 : S 3 = z.1) (hz2 : S 2 = nI z.2) (hz3 : z.2 ≤ L) (hby : ∀ k : Nat, k < L → inR (tb k) 0 255 = true) : Met l yX2_kindHere wsX2_kindHere ({ frames := 4, cells := 0, slots := 0, locals := 91 }) (va_Pc [.ref u] (rosP G (lzTp u q S ++ lzI G (q 0) 120 tb) aK aV)) (vp_Si (fun r => r = khI (byI tb L z.2))) 0 0 (fun _ => False) := by
  refine ros_start (cc := cX2_kindHere) (maxL := 2) (ret := (some .int)) (by decide) rfl (Nat.le_of_ble_eq_true rfl) ?_
  intro pp ee ss mm bl me cd hx hb hr hlk hml hts hown hP hK hSt ls hl
  have hown : ss.vm.findClass RX2 = some mm.cls := hown
  have hw1 := hts (.fieldLink RX2 19 "LampSquares$Tape" "at" "I") (List.mem_of_getElem? (i := 1) rfl)
  have hw2 := hts (.constant RX2 80 (-1000000)) (List.mem_of_getElem? (i := 2) rfl)
  have hu_wsX20 : ∀ w ∈ wsX20, w.before ([.ref u] : List Value).toArray ss = true := fun w h9 => hts w (List.mem_cons_of_mem _ (List.mem_append_right _ h9))
  have hl : lv_has ls 2 [(0, .ref u)] := hl
  refine lv_aload_n hx hb dX2_kindHere_0 rfl (lv_at hl 0 rfl) ?_
  refine lv_aload_n hx hb dX2_kindHere_1 rfl (lv_at hl 0 rfl) ?_
  refine lz_get (G := G) (ci := 2) (v := .int (S 2)) (C := RX2) (T := TX2) (N := 4) hx hb hu_wsX20 (fun _ h9 => h9) hown hK hP 0 rfl rfl 2 (by decide) hw1 rfl rfl dX2_kindHere_2 ?_
  refine lz_top (y := nI z.2) (hz2) ?_
  refine ro_calli (va_runV (As := [.int (nI z.2)]) (rest := []) ⟨hx, hb, hml, hown, hts⟩ (c_X2_byteAt l G u q S tb L z.2 (hL) (hL1) (by omega)) (cwV 1 hts gX2_kindHere_X2_byteAt rfl rfl rfl (by decide +kernel) ⟨Nat.le_of_ble_eq_true rfl, Nat.le_of_ble_eq_true rfl⟩) (ro_preV hK hP hP (ci := 2) (q0 := 0) rfl rfl) rfl rfl hl.1 rfl (lv_room (Nat.le_of_ble_eq_true rfl)) dX2_kindHere_5 ⟨Nat.zero_le _, Nat.zero_le _⟩) (fun r_1 hr_1 => ?_)
  refine lz_top (y := byI tb L z.2) hr_1 ?_
  refine lv_istore_n (lv' := [(1, .int (byI tb L z.2)), (0, .ref u)]) hx hb dX2_kindHere_8 rfl hl (by decide) rfl (fun ls hl => ?_)
  refine lv_iload_n hx hb dX2_kindHere_9 rfl (lv_at hl 0 rfl) ?_
  refine lv_ldc hx hb hown hw2 dX2_kindHere_10 ?_
  refine lv_icmp_ne (tgt := 19) hx hb dX2_kindHere_12 (by decide) (fun c_12 => ?_) (fun c_12 => ?_)
  · skip
    refine va_ldcS hx hb hown hSt.2.2.2.2.2 dX2_kindHere_19 ?_
    refine lv_iload_n hx hb dX2_kindHere_21 rfl (lv_at hl 0 rfl) ?_
    refine lv_i2c hx hb dX2_kindHere_22 rfl ?_
    refine lz_top (y := byI tb L z.2) (by_char (by_at hby (fun h9 => c_12 h9))) ?_
    refine ro_calli (va_runV (As := [.int (byI tb L z.2)]) (rest := []) ⟨hx, hb, hml, hown, hts⟩ (c_J0_indexOf_0f7a4 l G aK aV (byI tb L z.2) (by_at hby (fun h9 => c_12 h9))) (cwV 1 hts gX2_kindHere_J0_indexOf_0f7a4 rfl rfl rfl (by decide +kernel) ⟨Nat.le_of_ble_eq_true rfl, Nat.le_of_ble_eq_true rfl⟩) (ros_preV hK (fun k q h => by simp at h) hSt va_S.rf (str_recv hSt va_S.rf)) rfl rfl hl.1 rfl (lv_room (Nat.le_of_ble_eq_true rfl)) dX2_kindHere_23 ⟨Nat.zero_le _, Nat.zero_le _⟩) (fun r_2 hr_2 => ?_)
    refine lz_top (y := ixK (byI tb L z.2).toInt8.toInt32) hr_2 ?_
    refine lv_iconst (v := 1) hx hb dX2_kindHere_26 (by decide) ?_
    refine lv_iadd hx hb dX2_kindHere_27 ?_
    refine lz_top (y := khI (byI tb L z.2)) (by_kind (by_at hby (fun h9 => c_12 h9))) ?_
    exact ro_iret hx hb hr hlk dX2_kindHere_28 (by first | rfl | (rw [c_12]; rfl))
  · skip
    refine lv_iconst (v := 0) hx hb dX2_kindHere_15 (by decide) ?_
    refine lv_goto (tgt := 28) hx hb dX2_kindHere_16 (by decide) ?_
    exact ro_iret hx hb hr hlk dX2_kindHere_28 (by first | rfl | (rw [c_12]; rfl))
