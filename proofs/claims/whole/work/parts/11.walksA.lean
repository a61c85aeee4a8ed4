set_option maxHeartbeats 4000000 in
set_option maxRecDepth 100000 in
theorem c_X3_isIn (l : Launch) (G : lzG) (n lo hi : Int32)  : Met l yX3_isIn wsX3_isIn ({ frames := 0, cells := 0, slots := 0, locals := 0 }) (va_Pc [.int n, .int lo, .int hi] (roP G ([] : va_W))) (vp_Si (fun r : Int32 => r = b2 (inR n lo hi))) 0 0 (fun _ => False) := by
  refine ro_start (cc := cX3_isIn) (maxL := 3) (ret := (some .boolean)) (by decide) rfl (Nat.le_of_ble_eq_true rfl) ?_
  intro pp ee ss mm bl me cd hx hb hr hlk hml hts hown hP hK ls hl
  have hown : ss.vm.findClass RX3 = some mm.cls := hown
  have hl : lv_has ls 3 [(0, .int n), (1, .int lo), (2, .int hi)] := hl
  refine lv_iload_n hx hb dX3_isIn_0 rfl (lv_at hl 0 rfl) ?_
  refine lv_iload_n hx hb dX3_isIn_1 rfl (lv_at hl 1 rfl) ?_
  refine lv_icmp_lt (tgt := 14) hx hb dX3_isIn_2 (by decide) (fun c_2 => ?_) (fun c_2 => ?_)
  · skip
    have c_2' := Int32.not_le.mpr c_2
    refine lv_iconst (v := 0) hx hb dX3_isIn_14 (by decide) ?_
    exact ro_zret hx hb hr hlk dX3_isIn_15 (by first | (rw [inR_f1 (by assumption)]; rfl) | (rw [inR_f2 (by assumption)]; rfl) | (rw [inR_t (by assumption) (by assumption)]; rfl))
  · skip
    have c_2' := Int32.not_lt.mp c_2
    refine lv_iload_n hx hb dX3_isIn_5 rfl (lv_at hl 0 rfl) ?_
    refine lv_iload_n hx hb dX3_isIn_6 rfl (lv_at hl 2 rfl) ?_
    refine lv_icmp_gt (tgt := 14) hx hb dX3_isIn_7 (by decide) (fun c_7 => ?_) (fun c_7 => ?_)
    · skip
      have c_7' := Int32.not_le.mpr c_7
      refine lv_iconst (v := 0) hx hb dX3_isIn_14 (by decide) ?_
      exact ro_zret hx hb hr hlk dX3_isIn_15 (by first | (rw [inR_f1 (by assumption)]; rfl) | (rw [inR_f2 (by assumption)]; rfl) | (rw [inR_t (by assumption) (by assumption)]; rfl))
    · skip
      have c_7' := Int32.not_lt.mp c_7
      refine lv_iconst (v := 1) hx hb dX3_isIn_10 (by decide) ?_
      refine lv_goto (tgt := 15) hx hb dX3_isIn_11 (by decide) ?_
      exact ro_zret hx hb hr hlk dX3_isIn_15 (by first | (rw [inR_f1 (by assumption)]; rfl) | (rw [inR_f2 (by assumption)]; rfl) | (rw [inR_t (by assumption) (by assumption)]; rfl))
set_option maxHeartbeats 4000000 in
set_option maxRecDepth 100000 in
theorem c_X3_isRow (l : Launch) (G : lzG) (n : Int32)  : Met l yX3_isRow wsX3_isRow ({ frames := 1, cells := 0, slots := 0, locals := 22 }) (va_Pc [.int n] (roP G ([] : va_W))) (vp_Si (fun r : Int32 => r = b2 (inR n 0 7))) 0 0 (fun _ => False) := by
  refine ro_start (cc := cX3_isRow) (maxL := 1) (ret := (some .boolean)) (by decide) rfl (Nat.le_of_ble_eq_true rfl) ?_
  intro pp ee ss mm bl me cd hx hb hr hlk hml hts hown hP hK ls hl
  have hown : ss.vm.findClass RX3 = some mm.cls := hown
  have hl : lv_has ls 1 [(0, .int n)] := hl
  refine lv_iload_n hx hb dX3_isRow_0 rfl (lv_at hl 0 rfl) ?_
  refine lv_iconst (v := 0) hx hb dX3_isRow_1 (by decide) ?_
  refine lv_bipush (v := 7) hx hb dX3_isRow_2 (by decide) ?_
  refine ro_calli (va_runS (As := [.int n, .int 0, .int 7]) (rest := []) ⟨hx, hb, hml, hown, hts⟩ (c_X3_isIn l G n 0 7 ) (cwS 3 hts gX3_isRow_X3_isIn rfl rfl rfl (by decide +kernel) ⟨Nat.le_of_ble_eq_true rfl, Nat.le_of_ble_eq_true rfl⟩) (ro_pre hK (fun k q h => by simp at h)) rfl rfl hl.1 rfl (lv_room (Nat.le_of_ble_eq_true rfl)) dX3_isRow_4 ⟨Nat.zero_le _, Nat.zero_le _⟩) (fun r_1 hr_1 => ?_)
  exact ro_zret hx hb hr hlk dX3_isRow_7 (by assumption)
set_option maxHeartbeats 4000000 in
set_option maxRecDepth 100000 in
theorem c_X3_seenBy (l : Launch) (G : lzG) (care ear kind share : Int32)  : Met l yX3_seenBy wsX3_seenBy ({ frames := 0, cells := 0, slots := 0, locals := 0 }) (va_Pc [.int care, .int ear, .int kind, .int share] (roP G ([] : va_W))) (vp_Si (fun r => r = seenI kind share care ear)) 0 0 (fun _ => False) := by
  refine ro_start (cc := cX3_seenBy) (maxL := 4) (ret := (some .int)) (by decide) rfl (Nat.le_of_ble_eq_true rfl) ?_
  intro pp ee ss mm bl me cd hx hb hr hlk hml hts hown hP hK ls hl
  have hown : ss.vm.findClass RX3 = some mm.cls := hown
  have hl : lv_has ls 4 [(0, .int care), (1, .int ear), (2, .int kind), (3, .int share)] := hl
  refine lv_iload_n hx hb dX3_seenBy_0 rfl (lv_at hl 2 rfl) ?_
  by_cases v_1_2 : kind = 2
  · refine lv_tableIn (off := 31) (tgt := 32) hx hb dX3_seenBy_1 (by rw [v_1_2]; decide) (by rw [v_1_2]; decide) (by rw [v_1_2]; rfl) (by decide) ?_
    refine lv_iload_n hx hb dX3_seenBy_32 rfl (lv_at hl 3 rfl) ?_
    refine lv_if_ne (tgt := 40) hx hb dX3_seenBy_33 (by decide) (fun c_33 => ?_) (fun c_33 => ?_)
    · skip
      refine lv_iload_n hx hb dX3_seenBy_40 rfl (lv_at hl 3 rfl) ?_
      refine lv_iconst (v := 1) hx hb dX3_seenBy_41 (by decide) ?_
      refine lv_isub hx hb dX3_seenBy_42 ?_
      exact ro_iret hx hb hr hlk dX3_seenBy_43 (by unfold seenI; first | (simp [*]; done) | (simp_all; done))
    · skip
      refine lv_iconst (v := 0) hx hb dX3_seenBy_36 (by decide) ?_
      refine lv_goto (tgt := 43) hx hb dX3_seenBy_37 (by decide) ?_
      exact ro_iret hx hb hr hlk dX3_seenBy_43 (by unfold seenI; first | (simp [*]; done) | (simp_all; done))
  by_cases v_1_3 : kind = 3
  · refine lv_tableIn (off := 43) (tgt := 44) hx hb dX3_seenBy_1 (by rw [v_1_3]; decide) (by rw [v_1_3]; decide) (by rw [v_1_3]; rfl) (by decide) ?_
    refine lv_iload_n hx hb dX3_seenBy_44 rfl (lv_at hl 0 rfl) ?_
    refine lv_iconst (v := 5) hx hb dX3_seenBy_45 (by decide) ?_
    refine lv_icmp_ge (tgt := 56) hx hb dX3_seenBy_46 (by decide) (fun c_46 => ?_) (fun c_46 => ?_)
    · skip
      have c_46' := Int32.not_lt.mpr c_46
      refine lv_iload_n hx hb dX3_seenBy_56 rfl (lv_at hl 3 rfl) ?_
      exact ro_iret hx hb hr hlk dX3_seenBy_57 (by unfold seenI; first | (simp [*]; done) | (simp_all; done))
    · skip
      have c_46' := Int32.not_le.mp c_46
      refine lv_bipush (v := 9) hx hb dX3_seenBy_49 (by decide) ?_
      refine lv_iload_n hx hb dX3_seenBy_51 rfl (lv_at hl 3 rfl) ?_
      refine lv_isub hx hb dX3_seenBy_52 ?_
      refine lv_goto (tgt := 57) hx hb dX3_seenBy_53 (by decide) ?_
      exact ro_iret hx hb hr hlk dX3_seenBy_57 (by unfold seenI; first | (simp [*]; done) | (simp_all; done))
  by_cases v_1_4 : kind = 4
  · refine lv_tableIn (off := 68) (tgt := 69) hx hb dX3_seenBy_1 (by rw [v_1_4]; decide) (by rw [v_1_4]; decide) (by rw [v_1_4]; rfl) (by decide) ?_
    refine lv_iload_n hx hb dX3_seenBy_69 rfl (lv_at hl 3 rfl) ?_
    exact ro_iret hx hb hr hlk dX3_seenBy_70 (by unfold seenI; first | (simp [*]; done) | (simp_all; done))
  by_cases v_1_5 : kind = 5
  · refine lv_tableIn (off := 57) (tgt := 58) hx hb dX3_seenBy_1 (by rw [v_1_5]; decide) (by rw [v_1_5]; decide) (by rw [v_1_5]; rfl) (by decide) ?_
    refine lv_iload_n hx hb dX3_seenBy_58 rfl (lv_at hl 1 rfl) ?_
    refine lv_iconst (v := 5) hx hb dX3_seenBy_59 (by decide) ?_
    refine lv_icmp_lt (tgt := 67) hx hb dX3_seenBy_60 (by decide) (fun c_60 => ?_) (fun c_60 => ?_)
    · skip
      have c_60' := Int32.not_le.mpr c_60
      refine lv_iconst (v := 0) hx hb dX3_seenBy_67 (by decide) ?_
      exact ro_iret hx hb hr hlk dX3_seenBy_68 (by unfold seenI; first | (simp [*]; done) | (simp_all; done))
    · skip
      have c_60' := Int32.not_lt.mp c_60
      refine lv_iload_n hx hb dX3_seenBy_63 rfl (lv_at hl 3 rfl) ?_
      refine lv_goto (tgt := 68) hx hb dX3_seenBy_64 (by decide) ?_
      exact ro_iret hx hb hr hlk dX3_seenBy_68 (by unfold seenI; first | (simp [*]; done) | (simp_all; done))
  have v_1_2T : ¬ Int32.toInt kind = 2 := lv_neT v_1_2 rfl
  have v_1_3T : ¬ Int32.toInt kind = 3 := lv_neT v_1_3 rfl
  have v_1_4T : ¬ Int32.toInt kind = 4 := lv_neT v_1_4 rfl
  have v_1_5T : ¬ Int32.toInt kind = 5 := lv_neT v_1_5 rfl
  refine lv_tableOut (tgt := 69) hx hb dX3_seenBy_1 (by omega) (by decide) ?_
  refine lv_iload_n hx hb dX3_seenBy_69 rfl (lv_at hl 3 rfl) ?_
  exact ro_iret hx hb hr hlk dX3_seenBy_70 (by unfold seenI; first | (simp [*]; done) | (simp_all; done))
set_option maxHeartbeats 4000000 in
set_option maxRecDepth 100000 in
theorem c_X3_isClickedBy (l : Launch) (G : lzG) (care ear kind share : Int32)  : Met l yX3_isClickedBy wsX3_isClickedBy ({ frames := 1, cells := 0, slots := 0, locals := 23 }) (va_Pc [.int care, .int ear, .int kind, .int share] (roP G ([] : va_W))) (vp_Si (fun r : Int32 => r = b2 (clkI kind share care ear))) 0 0 (fun _ => False) := by
  refine ro_start (cc := cX3_isClickedBy) (maxL := 4) (ret := (some .boolean)) (by decide) rfl (Nat.le_of_ble_eq_true rfl) ?_
  intro pp ee ss mm bl me cd hx hb hr hlk hml hts hown hP hK ls hl
  have hown : ss.vm.findClass RX3 = some mm.cls := hown
  have hl : lv_has ls 4 [(0, .int care), (1, .int ear), (2, .int kind), (3, .int share)] := hl
  refine lv_iload_n hx hb dX3_isClickedBy_0 rfl (lv_at hl 0 rfl) ?_
  refine lv_iload_n hx hb dX3_isClickedBy_1 rfl (lv_at hl 1 rfl) ?_
  refine lv_iload_n hx hb dX3_isClickedBy_2 rfl (lv_at hl 2 rfl) ?_
  refine lv_iload_n hx hb dX3_isClickedBy_3 rfl (lv_at hl 3 rfl) ?_
  refine ro_calli (va_runS (As := [.int care, .int ear, .int kind, .int share]) (rest := []) ⟨hx, hb, hml, hown, hts⟩ (c_X3_seenBy l G care ear kind share ) (cwS 4 hts gX3_isClickedBy_X3_seenBy rfl rfl rfl (by decide +kernel) ⟨Nat.le_of_ble_eq_true rfl, Nat.le_of_ble_eq_true rfl⟩) (ro_pre hK (fun k q h => by simp at h)) rfl rfl hl.1 rfl (lv_room (Nat.le_of_ble_eq_true rfl)) dX3_isClickedBy_4 ⟨Nat.zero_le _, Nat.zero_le _⟩) (fun r_1 hr_1 => ?_)
  refine lz_top (y := seenI kind share care ear) hr_1 ?_
  refine lv_bipush (v := 9) hx hb dX3_isClickedBy_7 (by decide) ?_
  refine lv_iload_n hx hb dX3_isClickedBy_9 rfl (lv_at hl 0 rfl) ?_
  refine lv_isub hx hb dX3_isClickedBy_10 ?_
  refine lv_icmp_le (tgt := 18) hx hb dX3_isClickedBy_11 (by decide) (fun c_11 => ?_) (fun c_11 => ?_)
  · skip
    have c_11' := Int32.not_lt.mpr c_11
    refine lv_iconst (v := 0) hx hb dX3_isClickedBy_18 (by decide) ?_
    exact ro_zret hx hb hr hlk dX3_isClickedBy_19 (by unfold clkI; simp [*, b2])
  · skip
    have c_11' := Int32.not_le.mp c_11
    refine lv_iconst (v := 1) hx hb dX3_isClickedBy_14 (by decide) ?_
    refine lv_goto (tgt := 19) hx hb dX3_isClickedBy_15 (by decide) ?_
    exact ro_zret hx hb hr hlk dX3_isClickedBy_19 (by unfold clkI; simp [*, b2])
set_option maxHeartbeats 4000000 in
set_option maxRecDepth 100000 in
theorem c_X3_isOfKind (l : Launch) (G : lzG) (kind wanted : Int32)  : Met l yX3_isOfKind wsX3_isOfKind ({ frames := 0, cells := 0, slots := 0, locals := 0 }) (va_Pc [.int kind, .int wanted] (roP G ([] : va_W))) (vp_Si (fun r : Int32 => r = b2 (ofK kind wanted))) 0 0 (fun _ => False) := by
  refine ro_start (cc := cX3_isOfKind) (maxL := 2) (ret := (some .boolean)) (by decide) rfl (Nat.le_of_ble_eq_true rfl) ?_
  intro pp ee ss mm bl me cd hx hb hr hlk hml hts hown hP hK ls hl
  have hown : ss.vm.findClass RX3 = some mm.cls := hown
  have hl : lv_has ls 2 [(0, .int kind), (1, .int wanted)] := hl
  refine lv_iload_n hx hb dX3_isOfKind_0 rfl (lv_at hl 1 rfl) ?_
  refine lv_if_eq (tgt := 34) hx hb dX3_isOfKind_1 (by decide) (fun c_1 => ?_) (fun c_1 => ?_)
  · skip
    refine lv_iconst (v := 1) hx hb dX3_isOfKind_34 (by decide) ?_
    refine lv_goto (tgt := 39) hx hb dX3_isOfKind_35 (by decide) ?_
    exact ro_zret hx hb hr hlk dX3_isOfKind_39 (by unfold ofK; first | (simp [*, b2]; done) | (simp_all [b2]; done))
  · skip
    refine lv_iload_n hx hb dX3_isOfKind_4 rfl (lv_at hl 1 rfl) ?_
    refine lv_iload_n hx hb dX3_isOfKind_5 rfl (lv_at hl 0 rfl) ?_
    refine lv_icmp_eq (tgt := 34) hx hb dX3_isOfKind_6 (by decide) (fun c_6 => ?_) (fun c_6 => ?_)
    · skip
      refine lv_iconst (v := 1) hx hb dX3_isOfKind_34 (by decide) ?_
      refine lv_goto (tgt := 39) hx hb dX3_isOfKind_35 (by decide) ?_
      exact ro_zret hx hb hr hlk dX3_isOfKind_39 (by unfold ofK; first | (simp [*, b2]; done) | (simp_all [b2]; done))
    · skip
      refine lv_iload_n hx hb dX3_isOfKind_9 rfl (lv_at hl 1 rfl) ?_
      refine lv_iconst (v := 1) hx hb dX3_isOfKind_10 (by decide) ?_
      refine lv_icmp_ne (tgt := 24) hx hb dX3_isOfKind_11 (by decide) (fun c_11 => ?_) (fun c_11 => ?_)
      · skip
        refine lv_iload_n hx hb dX3_isOfKind_24 rfl (lv_at hl 1 rfl) ?_
        refine lv_iconst (v := 4) hx hb dX3_isOfKind_25 (by decide) ?_
        refine lv_icmp_ne (tgt := 38) hx hb dX3_isOfKind_26 (by decide) (fun c_26 => ?_) (fun c_26 => ?_)
        · skip
          refine lv_iconst (v := 0) hx hb dX3_isOfKind_38 (by decide) ?_
          exact ro_zret hx hb hr hlk dX3_isOfKind_39 (by unfold ofK; first | (simp [*, b2]; done) | (simp_all [b2]; done))
        · skip
          refine lv_iload_n hx hb dX3_isOfKind_29 rfl (lv_at hl 0 rfl) ?_
          refine lv_iconst (v := 5) hx hb dX3_isOfKind_30 (by decide) ?_
          refine lv_icmp_ne (tgt := 38) hx hb dX3_isOfKind_31 (by decide) (fun c_31 => ?_) (fun c_31 => ?_)
          · skip
            refine lv_iconst (v := 0) hx hb dX3_isOfKind_38 (by decide) ?_
            exact ro_zret hx hb hr hlk dX3_isOfKind_39 (by unfold ofK; first | (simp [*, b2]; done) | (simp_all [b2]; done))
          · skip
            refine lv_iconst (v := 1) hx hb dX3_isOfKind_34 (by decide) ?_
            refine lv_goto (tgt := 39) hx hb dX3_isOfKind_35 (by decide) ?_
            exact ro_zret hx hb hr hlk dX3_isOfKind_39 (by unfold ofK; first | (simp [*, b2]; done) | (simp_all [b2]; done))
      · skip
        refine lv_iload_n hx hb dX3_isOfKind_14 rfl (lv_at hl 0 rfl) ?_
        refine lv_iconst (v := 2) hx hb dX3_isOfKind_15 (by decide) ?_
        refine lv_icmp_eq (tgt := 34) hx hb dX3_isOfKind_16 (by decide) (fun c_16 => ?_) (fun c_16 => ?_)
        · skip
          refine lv_iconst (v := 1) hx hb dX3_isOfKind_34 (by decide) ?_
          refine lv_goto (tgt := 39) hx hb dX3_isOfKind_35 (by decide) ?_
          exact ro_zret hx hb hr hlk dX3_isOfKind_39 (by unfold ofK; first | (simp [*, b2]; done) | (simp_all [b2]; done))
        · skip
          refine lv_iload_n hx hb dX3_isOfKind_19 rfl (lv_at hl 0 rfl) ?_
          refine lv_iconst (v := 3) hx hb dX3_isOfKind_20 (by decide) ?_
          refine lv_icmp_eq (tgt := 34) hx hb dX3_isOfKind_21 (by decide) (fun c_21 => ?_) (fun c_21 => ?_)
          · skip
            refine lv_iconst (v := 1) hx hb dX3_isOfKind_34 (by decide) ?_
            refine lv_goto (tgt := 39) hx hb dX3_isOfKind_35 (by decide) ?_
            exact ro_zret hx hb hr hlk dX3_isOfKind_39 (by unfold ofK; first | (simp [*, b2]; done) | (simp_all [b2]; done))
          · skip
            refine lv_iload_n hx hb dX3_isOfKind_24 rfl (lv_at hl 1 rfl) ?_
            refine lv_iconst (v := 4) hx hb dX3_isOfKind_25 (by decide) ?_
            refine lv_icmp_ne (tgt := 38) hx hb dX3_isOfKind_26 (by decide) (fun c_26 => ?_) (fun c_26 => ?_)
            · skip
              refine lv_iconst (v := 0) hx hb dX3_isOfKind_38 (by decide) ?_
              exact ro_zret hx hb hr hlk dX3_isOfKind_39 (by unfold ofK; first | (simp [*, b2]; done) | (simp_all [b2]; done))
            · skip
              refine lv_iload_n hx hb dX3_isOfKind_29 rfl (lv_at hl 0 rfl) ?_
              refine lv_iconst (v := 5) hx hb dX3_isOfKind_30 (by decide) ?_
              refine lv_icmp_ne (tgt := 38) hx hb dX3_isOfKind_31 (by decide) (fun c_31 => ?_) (fun c_31 => ?_)
              · skip
                refine lv_iconst (v := 0) hx hb dX3_isOfKind_38 (by decide) ?_
                exact ro_zret hx hb hr hlk dX3_isOfKind_39 (by unfold ofK; first | (simp [*, b2]; done) | (simp_all [b2]; done))
              · skip
                refine lv_iconst (v := 1) hx hb dX3_isOfKind_34 (by decide) ?_
                refine lv_goto (tgt := 39) hx hb dX3_isOfKind_35 (by decide) ?_
                exact ro_zret hx hb hr hlk dX3_isOfKind_39 (by unfold ofK; first | (simp [*, b2]; done) | (simp_all [b2]; done))
set_option maxHeartbeats 4000000 in
set_option maxRecDepth 100000 in
theorem c_X4_in (l : Launch) (G : lzG) (n lo hi : Int64)  : Met l yX4_in wsX4_in ({ frames := 0, cells := 0, slots := 0, locals := 0 }) (va_Pc [.long n, .long lo, .long hi] (roP G ([] : va_W))) (vp_Si (fun r : Int32 => r = b2 (inL n lo hi))) 0 0 (fun _ => False) := by
  refine ro_start (cc := cX4_in) (maxL := 6) (ret := (some .boolean)) (by decide) rfl (Nat.le_of_ble_eq_true rfl) ?_
  intro pp ee ss mm bl me cd hx hb hr hlk hml hts hown hP hK ls hl
  have hown : ss.vm.findClass RX4 = some mm.cls := hown
  have hl : lv_has ls 6 [(0, .long n), (2, .long lo), (4, .long hi)] := hl
  refine lv_lload_n hx hb dX4_in_0 rfl (lv_at hl 0 rfl) ?_
  refine lv_lload_n hx hb dX4_in_1 rfl (lv_at hl 1 rfl) ?_
  refine W.lcmp hx hb dX4_in_2 ?_
  refine lv_if_lt (tgt := 17) hx hb dX4_in_3 (by decide) (fun c_3 => ?_) (fun c_3 => ?_)
  · skip
    have c_3 := (lg_lt _ _).mp c_3
    have c_3' := Int64.not_le.mpr c_3
    refine lv_iconst (v := 0) hx hb dX4_in_17 (by decide) ?_
    exact ro_zret hx hb hr hlk dX4_in_18 (by first | (rw [inL_f1 (by assumption)]; rfl) | (rw [inL_f2 (by assumption)]; rfl) | (rw [inL_t (by assumption) (by assumption)]; rfl))
  · skip
    have c_3 := mt (lg_lt _ _).mpr c_3
    have c_3' := Int64.not_lt.mp c_3
    refine lv_lload_n hx hb dX4_in_6 rfl (lv_at hl 0 rfl) ?_
    refine lv_lload hx hb dX4_in_7 (lv_at hl 2 rfl) ?_
    refine W.lcmp hx hb dX4_in_9 ?_
    refine lv_if_gt (tgt := 17) hx hb dX4_in_10 (by decide) (fun c_10 => ?_) (fun c_10 => ?_)
    · skip
      have c_10 := (lg_gt _ _).mp c_10
      have c_10' := Int64.not_le.mpr c_10
      refine lv_iconst (v := 0) hx hb dX4_in_17 (by decide) ?_
      exact ro_zret hx hb hr hlk dX4_in_18 (by first | (rw [inL_f1 (by assumption)]; rfl) | (rw [inL_f2 (by assumption)]; rfl) | (rw [inL_t (by assumption) (by assumption)]; rfl))
    · skip
      have c_10 := mt (lg_gt _ _).mpr c_10
      have c_10' := Int64.not_lt.mp c_10
      refine lv_iconst (v := 1) hx hb dX4_in_13 (by decide) ?_
      refine lv_goto (tgt := 18) hx hb dX4_in_14 (by decide) ?_
      exact ro_zret hx hb hr hlk dX4_in_18 (by first | (rw [inL_f1 (by assumption)]; rfl) | (rw [inL_f2 (by assumption)]; rfl) | (rw [inL_t (by assumption) (by assumption)]; rfl))
set_option maxHeartbeats 4000000 in
set_option maxRecDepth 100000 in
theorem c_X4_has (l : Launch) (G : lzG) (set : Int32) (k : Nat)  : Met l yX4_has wsX4_has ({ frames := 0, cells := 0, slots := 0, locals := 0 }) (va_Pc [.int set, .int (nI k)] (roP G ([] : va_W))) (vp_Si (fun r : Int32 => r = b2 (hasI set k))) 0 0 (fun _ => False) := by
  refine ro_start (cc := cX4_has) (maxL := 2) (ret := (some .boolean)) (by decide) rfl (Nat.le_of_ble_eq_true rfl) ?_
  intro pp ee ss mm bl me cd hx hb hr hlk hml hts hown hP hK ls hl
  have hown : ss.vm.findClass RX4 = some mm.cls := hown
  have hl : lv_has ls 2 [(0, .int set), (1, .int (nI k))] := hl
  refine lv_iload_n hx hb dX4_has_0 rfl (lv_at hl 0 rfl) ?_
  refine lv_iload_n hx hb dX4_has_1 rfl (lv_at hl 1 rfl) ?_
  refine lv_ishr hx hb dX4_has_2 ?_
  refine lv_iconst (v := 1) hx hb dX4_has_3 (by decide) ?_
  refine lv_iand hx hb dX4_has_4 ?_
  refine lv_iconst (v := 1) hx hb dX4_has_5 (by decide) ?_
  refine lv_icmp_ne (tgt := 13) hx hb dX4_has_6 (by decide) (fun c_6 => ?_) (fun c_6 => ?_)
  · skip
    refine lv_iconst (v := 0) hx hb dX4_has_13 (by decide) ?_
    exact ro_zret hx hb hr hlk dX4_has_14 (by unfold hasI; first | (simp [*, b2]; done) | (simp_all [b2]; done))
  · skip
    refine lv_iconst (v := 1) hx hb dX4_has_9 (by decide) ?_
    refine lv_goto (tgt := 14) hx hb dX4_has_10 (by decide) ?_
    exact ro_zret hx hb hr hlk dX4_has_14 (by unfold hasI; first | (simp [*, b2]; done) | (simp_all [b2]; done))
set_option maxHeartbeats 4000000 in
set_option maxRecDepth 100000 in
theorem c_X4_seesBy (l : Launch) (G : lzG) (kind share care ear : Int32)  : Met l yX4_seesBy wsX4_seesBy ({ frames := 0, cells := 0, slots := 0, locals := 0 }) (va_Pc [.int kind, .int share, .int care, .int ear] (roP G ([] : va_W))) (vp_Si (fun r => r = seenM kind share care ear)) 0 0 (fun _ => False) := by
  refine ro_start (cc := cX4_seesBy) (maxL := 4) (ret := (some .int)) (by decide) rfl (Nat.le_of_ble_eq_true rfl) ?_
  intro pp ee ss mm bl me cd hx hb hr hlk hml hts hown hP hK ls hl
  have hown : ss.vm.findClass RX4 = some mm.cls := hown
  have hl : lv_has ls 4 [(0, .int kind), (1, .int share), (2, .int care), (3, .int ear)] := hl
  refine lv_iload_n hx hb dX4_seesBy_0 rfl (lv_at hl 0 rfl) ?_
  by_cases v_1_2 : kind = 2
  · refine lv_tableIn (off := 31) (tgt := 32) hx hb dX4_seesBy_1 (by rw [v_1_2]; decide) (by rw [v_1_2]; decide) (by rw [v_1_2]; rfl) (by decide) ?_
    refine lv_iload_n hx hb dX4_seesBy_32 rfl (lv_at hl 1 rfl) ?_
    refine lv_if_le (tgt := 42) hx hb dX4_seesBy_33 (by decide) (fun c_33 => ?_) (fun c_33 => ?_)
    · skip
      have c_33' := Int32.not_lt.mpr c_33
      refine lv_iconst (v := 0) hx hb dX4_seesBy_42 (by decide) ?_
      exact ro_iret hx hb hr hlk dX4_seesBy_43 (by unfold seenM; first | (simp [*]; done) | (simp_all; done))
    · skip
      have c_33' := Int32.not_le.mp c_33
      refine lv_iload_n hx hb dX4_seesBy_36 rfl (lv_at hl 1 rfl) ?_
      refine lv_iconst (v := 1) hx hb dX4_seesBy_37 (by decide) ?_
      refine lv_isub hx hb dX4_seesBy_38 ?_
      refine lv_goto (tgt := 43) hx hb dX4_seesBy_39 (by decide) ?_
      exact ro_iret hx hb hr hlk dX4_seesBy_43 (by unfold seenM; first | (simp [*]; done) | (simp_all; done))
  by_cases v_1_3 : kind = 3
  · refine lv_tableIn (off := 43) (tgt := 44) hx hb dX4_seesBy_1 (by rw [v_1_3]; decide) (by rw [v_1_3]; decide) (by rw [v_1_3]; rfl) (by decide) ?_
    refine lv_iload_n hx hb dX4_seesBy_44 rfl (lv_at hl 2 rfl) ?_
    refine lv_iconst (v := 5) hx hb dX4_seesBy_45 (by decide) ?_
    refine lv_icmp_ge (tgt := 56) hx hb dX4_seesBy_46 (by decide) (fun c_46 => ?_) (fun c_46 => ?_)
    · skip
      have c_46' := Int32.not_lt.mpr c_46
      refine lv_iload_n hx hb dX4_seesBy_56 rfl (lv_at hl 1 rfl) ?_
      exact ro_iret hx hb hr hlk dX4_seesBy_57 (by unfold seenM; first | (simp [*]; done) | (simp_all; done))
    · skip
      have c_46' := Int32.not_le.mp c_46
      refine lv_bipush (v := 9) hx hb dX4_seesBy_49 (by decide) ?_
      refine lv_iload_n hx hb dX4_seesBy_51 rfl (lv_at hl 1 rfl) ?_
      refine lv_isub hx hb dX4_seesBy_52 ?_
      refine lv_goto (tgt := 57) hx hb dX4_seesBy_53 (by decide) ?_
      exact ro_iret hx hb hr hlk dX4_seesBy_57 (by unfold seenM; first | (simp [*]; done) | (simp_all; done))
  by_cases v_1_4 : kind = 4
  · refine lv_tableIn (off := 68) (tgt := 69) hx hb dX4_seesBy_1 (by rw [v_1_4]; decide) (by rw [v_1_4]; decide) (by rw [v_1_4]; rfl) (by decide) ?_
    refine lv_iload_n hx hb dX4_seesBy_69 rfl (lv_at hl 1 rfl) ?_
    exact ro_iret hx hb hr hlk dX4_seesBy_70 (by unfold seenM; first | (simp [*]; done) | (simp_all; done))
  by_cases v_1_5 : kind = 5
  · refine lv_tableIn (off := 57) (tgt := 58) hx hb dX4_seesBy_1 (by rw [v_1_5]; decide) (by rw [v_1_5]; decide) (by rw [v_1_5]; rfl) (by decide) ?_
    refine lv_iload_n hx hb dX4_seesBy_58 rfl (lv_at hl 3 rfl) ?_
    refine lv_iconst (v := 5) hx hb dX4_seesBy_59 (by decide) ?_
    refine lv_icmp_lt (tgt := 67) hx hb dX4_seesBy_60 (by decide) (fun c_60 => ?_) (fun c_60 => ?_)
    · skip
      have c_60' := Int32.not_le.mpr c_60
      refine lv_iconst (v := 0) hx hb dX4_seesBy_67 (by decide) ?_
      exact ro_iret hx hb hr hlk dX4_seesBy_68 (by unfold seenM; first | (simp [*]; done) | (simp_all; done))
    · skip
      have c_60' := Int32.not_lt.mp c_60
      refine lv_iload_n hx hb dX4_seesBy_63 rfl (lv_at hl 1 rfl) ?_
      refine lv_goto (tgt := 68) hx hb dX4_seesBy_64 (by decide) ?_
      exact ro_iret hx hb hr hlk dX4_seesBy_68 (by unfold seenM; first | (simp [*]; done) | (simp_all; done))
  have v_1_2T : ¬ Int32.toInt kind = 2 := lv_neT v_1_2 rfl
  have v_1_3T : ¬ Int32.toInt kind = 3 := lv_neT v_1_3 rfl
  have v_1_4T : ¬ Int32.toInt kind = 4 := lv_neT v_1_4 rfl
  have v_1_5T : ¬ Int32.toInt kind = 5 := lv_neT v_1_5 rfl
  refine lv_tableOut (tgt := 69) hx hb dX4_seesBy_1 (by omega) (by decide) ?_
  refine lv_iload_n hx hb dX4_seesBy_69 rfl (lv_at hl 1 rfl) ?_
  exact ro_iret hx hb hr hlk dX4_seesBy_70 (by unfold seenM; first | (simp [*]; done) | (simp_all; done))
set_option maxHeartbeats 4000000 in
set_option maxRecDepth 100000 in
theorem c_X4_clicksBy (l : Launch) (G : lzG) (kind share care ear : Int32)  : Met l yX4_clicksBy wsX4_clicksBy ({ frames := 1, cells := 0, slots := 0, locals := 23 }) (va_Pc [.int kind, .int share, .int care, .int ear] (roP G ([] : va_W))) (vp_Si (fun r : Int32 => r = b2 (clkM kind share care ear))) 0 0 (fun _ => False) := by
  refine ro_start (cc := cX4_clicksBy) (maxL := 4) (ret := (some .boolean)) (by decide) rfl (Nat.le_of_ble_eq_true rfl) ?_
  intro pp ee ss mm bl me cd hx hb hr hlk hml hts hown hP hK ls hl
  have hown : ss.vm.findClass RX4 = some mm.cls := hown
  have hl : lv_has ls 4 [(0, .int kind), (1, .int share), (2, .int care), (3, .int ear)] := hl
  refine lv_iload_n hx hb dX4_clicksBy_0 rfl (lv_at hl 0 rfl) ?_
  refine lv_iload_n hx hb dX4_clicksBy_1 rfl (lv_at hl 1 rfl) ?_
  refine lv_iload_n hx hb dX4_clicksBy_2 rfl (lv_at hl 2 rfl) ?_
  refine lv_iload_n hx hb dX4_clicksBy_3 rfl (lv_at hl 3 rfl) ?_
  refine ro_calli (va_runS (As := [.int kind, .int share, .int care, .int ear]) (rest := []) ⟨hx, hb, hml, hown, hts⟩ (c_X4_seesBy l G kind share care ear ) (cwS 4 hts gX4_clicksBy_X4_seesBy rfl rfl rfl (by decide +kernel) ⟨Nat.le_of_ble_eq_true rfl, Nat.le_of_ble_eq_true rfl⟩) (ro_pre hK (fun k q h => by simp at h)) rfl rfl hl.1 rfl (lv_room (Nat.le_of_ble_eq_true rfl)) dX4_clicksBy_4 ⟨Nat.zero_le _, Nat.zero_le _⟩) (fun r_1 hr_1 => ?_)
  refine lz_top (y := seenM kind share care ear) hr_1 ?_
  refine lv_bipush (v := 9) hx hb dX4_clicksBy_7 (by decide) ?_
  refine lv_iload_n hx hb dX4_clicksBy_9 rfl (lv_at hl 2 rfl) ?_
  refine lv_isub hx hb dX4_clicksBy_10 ?_
  refine lv_icmp_le (tgt := 18) hx hb dX4_clicksBy_11 (by decide) (fun c_11 => ?_) (fun c_11 => ?_)
  · skip
    have c_11' := Int32.not_lt.mpr c_11
    refine lv_iconst (v := 0) hx hb dX4_clicksBy_18 (by decide) ?_
    exact ro_zret hx hb hr hlk dX4_clicksBy_19 (by unfold clkM; simp [*, b2])
  · skip
    have c_11' := Int32.not_le.mp c_11
    refine lv_iconst (v := 1) hx hb dX4_clicksBy_14 (by decide) ?_
    refine lv_goto (tgt := 19) hx hb dX4_clicksBy_15 (by decide) ?_
    exact ro_zret hx hb hr hlk dX4_clicksBy_19 (by unfold clkM; simp [*, b2])
set_option maxHeartbeats 4000000 in
set_option maxRecDepth 100000 in
theorem c_X4_isRow (l : Launch) (G : lzG) (n : Int32)  : Met l yX4_isRow wsX4_isRow ({ frames := 1, cells := 0, slots := 0, locals := 25 }) (va_Pc [.int n] (roP G ([] : va_W))) (vp_Si (fun r : Int32 => r = b2 (inR n 0 7))) 0 0 (fun _ => False) := by
  refine ro_start (cc := cX4_isRow) (maxL := 1) (ret := (some .boolean)) (by decide) rfl (Nat.le_of_ble_eq_true rfl) ?_
  intro pp ee ss mm bl me cd hx hb hr hlk hml hts hown hP hK ls hl
  have hown : ss.vm.findClass RX4 = some mm.cls := hown
  have hw1 := hts (.constantLong RX4 56 (7)) (List.mem_of_getElem? (i := 1) rfl)
  have hl : lv_has ls 1 [(0, .int n)] := hl
  refine lv_iload_n hx hb dX4_isRow_0 rfl (lv_at hl 0 rfl) ?_
  refine lv_i2l hx hb dX4_isRow_1 rfl ?_
  refine lv_lconst (v := 0) hx hb dX4_isRow_2 (by decide) ?_
  refine lv_ldc2 hx hb hown hw1 dX4_isRow_3 ?_
  refine ro_calli (va_runS (As := [.long n.toInt64, .long 0, .long 7]) (rest := []) ⟨hx, hb, hml, hown, hts⟩ (c_X4_in l G n.toInt64 0 7 ) (cwS 3 hts gX4_isRow_X4_in rfl rfl rfl (by decide +kernel) ⟨Nat.le_of_ble_eq_true rfl, Nat.le_of_ble_eq_true rfl⟩) (ro_pre hK (fun k q h => by simp at h)) rfl rfl hl.1 rfl (lv_room (Nat.le_of_ble_eq_true rfl)) dX4_isRow_6 ⟨Nat.zero_le _, Nat.zero_le _⟩) (fun r_1 hr_1 => ?_)
  exact ro_zret hx hb hr hlk dX4_isRow_9 (hr_1.trans (congrArg b2 (inL_of n 0 7)))
set_option maxHeartbeats 4000000 in
set_option maxRecDepth 100000 in
theorem c_X4_of (l : Launch) (G : lzG) (a : Nat) (f : Nat → Int32) (s w : Nat) (hs : s < 8) (hw : w < 5) : Met l yX4_of wsX4_of ({ frames := 0, cells := 0, slots := 0, locals := 0 }) (va_Pc [.ref a, .int (nI s), .int (nI w)] (roP G (lzI G a 64 f))) (vp_Si (fun r => r = f (4 + 5 * s + w))) 0 0 (fun _ => False) := by
  refine ro_start (cc := cX4_of) (maxL := 3) (ret := (some .int)) (by decide) rfl (Nat.le_of_ble_eq_true rfl) ?_
  intro pp ee ss mm bl me cd hx hb hr hlk hml hts hown hP hK ls hl
  have hown : ss.vm.findClass RX4 = some mm.cls := hown
  have hl : lv_has ls 3 [(0, .ref a), (1, .int (nI s)), (2, .int (nI w))] := hl
  refine lv_aload_n hx hb dX4_of_0 rfl (lv_at hl 0 rfl) ?_
  refine lv_iconst (v := 4) hx hb dX4_of_1 (by decide) ?_
  refine lv_iconst (v := 5) hx hb dX4_of_2 (by decide) ?_
  refine lv_iload_n hx hb dX4_of_3 rfl (lv_at hl 1 rfl) ?_
  refine lv_imul hx hb dX4_of_4 ?_
  refine lv_iadd hx hb dX4_of_5 ?_
  refine lv_iload_n hx hb dX4_of_6 rfl (lv_at hl 2 rfl) ?_
  refine lv_iadd hx hb dX4_of_7 ?_
  refine lz_top (y := nI (4 + 5 * s + w)) (by simp only [fa_lit, pk_mul, nI_add]) ?_
  refine lz_iald (f := f) hx hb hK hP 0 rfl (4 + 5 * s + w) (by omega) (Nat.le_of_ble_eq_true rfl) dX4_of_8 ?_
  exact ro_iret hx hb hr hlk dX4_of_9 (rfl)
set_option maxHeartbeats 4000000 in
set_option maxRecDepth 100000 in
theorem c_X4_guest (l : Launch) (G : lzG) (a : Nat) (f : Nat → Int32) (v w : Nat) (hv : v < 5) (hw : w < 4) : Met l yX4_guest wsX4_guest ({ frames := 0, cells := 0, slots := 0, locals := 0 }) (va_Pc [.ref a, .int (nI v), .int (nI w)] (roP G (lzI G a 64 f))) (vp_Si (fun r => r = f (44 + 4 * v + w))) 0 0 (fun _ => False) := by
  refine ro_start (cc := cX4_guest) (maxL := 3) (ret := (some .int)) (by decide) rfl (Nat.le_of_ble_eq_true rfl) ?_
  intro pp ee ss mm bl me cd hx hb hr hlk hml hts hown hP hK ls hl
  have hown : ss.vm.findClass RX4 = some mm.cls := hown
  have hl : lv_has ls 3 [(0, .ref a), (1, .int (nI v)), (2, .int (nI w))] := hl
  refine lv_aload_n hx hb dX4_guest_0 rfl (lv_at hl 0 rfl) ?_
  refine lv_bipush (v := 44) hx hb dX4_guest_1 (by decide) ?_
  refine lv_iconst (v := 4) hx hb dX4_guest_3 (by decide) ?_
  refine lv_iload_n hx hb dX4_guest_4 rfl (lv_at hl 1 rfl) ?_
  refine lv_imul hx hb dX4_guest_5 ?_
  refine lv_iadd hx hb dX4_guest_6 ?_
  refine lv_iload_n hx hb dX4_guest_7 rfl (lv_at hl 2 rfl) ?_
  refine lv_iadd hx hb dX4_guest_8 ?_
  refine lz_top (y := nI (44 + 4 * v + w)) (by simp only [fa_lit, pk_mul, nI_add]) ?_
  refine lz_iald (f := f) hx hb hK hP 0 rfl (44 + 4 * v + w) (by omega) (Nat.le_of_ble_eq_true rfl) dX4_guest_9 ?_
  exact ro_iret hx hb hr hlk dX4_guest_10 (rfl)
set_option maxHeartbeats 4000000 in
set_option maxRecDepth 100000 in
theorem c_X4_clicksIt (l : Launch) (G : lzG) (a : Nat) (f : Nat → Int32) (v s : Nat) (hv : v < 5) (hs : s < 8) : Met l yX4_clicksIt wsX4_clicksIt ({ frames := 2, cells := 0, slots := 0, locals := 46 }) (va_Pc [.ref a, .int (nI v), .int (nI s)] (roP G (lzI G a 64 f))) (vp_Si (fun r : Int32 => r = b2 (clkR f v s))) 0 0 (fun _ => False) := by
  refine ro_start (cc := cX4_clicksIt) (maxL := 3) (ret := (some .boolean)) (by decide) rfl (Nat.le_of_ble_eq_true rfl) ?_
  intro pp ee ss mm bl me cd hx hb hr hlk hml hts hown hP hK ls hl
  have hown : ss.vm.findClass RX4 = some mm.cls := hown
  have hl : lv_has ls 3 [(0, .ref a), (1, .int (nI v)), (2, .int (nI s))] := hl
  refine lv_aload_n hx hb dX4_clicksIt_0 rfl (lv_at hl 0 rfl) ?_
  refine lv_iload_n hx hb dX4_clicksIt_1 rfl (lv_at hl 2 rfl) ?_
  refine lv_iconst (v := 0) hx hb dX4_clicksIt_2 (by decide) ?_
  refine ro_calli (va_runS (As := [.ref a, .int (nI s), .int 0]) (rest := []) ⟨hx, hb, hml, hown, hts⟩ (c_X4_of l G a f s 0 (by omega) (by decide)) (cwS 3 hts gX4_clicksIt_X4_of rfl rfl rfl (by decide +kernel) ⟨Nat.le_of_ble_eq_true rfl, Nat.le_of_ble_eq_true rfl⟩) (ro_pre hK hP) rfl rfl hl.1 rfl (lv_room (Nat.le_of_ble_eq_true rfl)) dX4_clicksIt_3 ⟨Nat.zero_le _, Nat.zero_le _⟩) (fun r_1 hr_1 => ?_)
  refine lz_top (y := f (4 + 5 * s)) hr_1 ?_
  refine lv_aload_n hx hb dX4_clicksIt_6 rfl (lv_at hl 0 rfl) ?_
  refine lv_iload_n hx hb dX4_clicksIt_7 rfl (lv_at hl 2 rfl) ?_
  refine lv_iconst (v := 1) hx hb dX4_clicksIt_8 (by decide) ?_
  refine ro_calli (va_runS (As := [.ref a, .int (nI s), .int 1]) (rest := [.int (f (4 + 5 * s))]) ⟨hx, hb, hml, hown, hts⟩ (c_X4_of l G a f s 1 (by omega) (by decide)) (cwS 3 hts gX4_clicksIt_X4_of rfl rfl rfl (by decide +kernel) ⟨Nat.le_of_ble_eq_true rfl, Nat.le_of_ble_eq_true rfl⟩) (ro_pre hK hP) rfl rfl hl.1 rfl (lv_room (Nat.le_of_ble_eq_true rfl)) dX4_clicksIt_9 ⟨Nat.zero_le _, Nat.zero_le _⟩) (fun r_2 hr_2 => ?_)
  refine lz_top (y := f (4 + 5 * s + 1)) hr_2 ?_
  refine lv_aload_n hx hb dX4_clicksIt_12 rfl (lv_at hl 0 rfl) ?_
  refine lv_iload_n hx hb dX4_clicksIt_13 rfl (lv_at hl 1 rfl) ?_
  refine lv_iconst (v := 0) hx hb dX4_clicksIt_14 (by decide) ?_
  refine ro_calli (va_runS (As := [.ref a, .int (nI v), .int 0]) (rest := [.int (f (4 + 5 * s + 1)), .int (f (4 + 5 * s))]) ⟨hx, hb, hml, hown, hts⟩ (c_X4_guest l G a f v 0 (by omega) (by decide)) (cwS 3 hts gX4_clicksIt_X4_guest rfl rfl rfl (by decide +kernel) ⟨Nat.le_of_ble_eq_true rfl, Nat.le_of_ble_eq_true rfl⟩) (ro_pre hK hP) rfl rfl hl.1 rfl (lv_room (Nat.le_of_ble_eq_true rfl)) dX4_clicksIt_15 ⟨Nat.zero_le _, Nat.zero_le _⟩) (fun r_3 hr_3 => ?_)
  refine lz_top (y := f (44 + 4 * v)) hr_3 ?_
  refine lv_aload_n hx hb dX4_clicksIt_18 rfl (lv_at hl 0 rfl) ?_
  refine lv_iload_n hx hb dX4_clicksIt_19 rfl (lv_at hl 1 rfl) ?_
  refine lv_iconst (v := 1) hx hb dX4_clicksIt_20 (by decide) ?_
  refine ro_calli (va_runS (As := [.ref a, .int (nI v), .int 1]) (rest := [.int (f (44 + 4 * v)), .int (f (4 + 5 * s + 1)), .int (f (4 + 5 * s))]) ⟨hx, hb, hml, hown, hts⟩ (c_X4_guest l G a f v 1 (by omega) (by decide)) (cwS 3 hts gX4_clicksIt_X4_guest rfl rfl rfl (by decide +kernel) ⟨Nat.le_of_ble_eq_true rfl, Nat.le_of_ble_eq_true rfl⟩) (ro_pre hK hP) rfl rfl hl.1 rfl (lv_room (Nat.le_of_ble_eq_true rfl)) dX4_clicksIt_21 ⟨Nat.zero_le _, Nat.zero_le _⟩) (fun r_4 hr_4 => ?_)
  refine lz_top (y := f (44 + 4 * v + 1)) hr_4 ?_
  refine ro_calli (va_runS (As := [.int (f (4 + 5 * s)), .int (f (4 + 5 * s + 1)), .int (f (44 + 4 * v)), .int (f (44 + 4 * v + 1))]) (rest := []) ⟨hx, hb, hml, hown, hts⟩ (c_X4_clicksBy l G (f (4 + 5 * s)) (f (4 + 5 * s + 1)) (f (44 + 4 * v)) (f (44 + 4 * v + 1)) ) (cwS 4 hts gX4_clicksIt_X4_clicksBy rfl rfl rfl (by decide +kernel) ⟨Nat.le_of_ble_eq_true rfl, Nat.le_of_ble_eq_true rfl⟩) (ro_pre hK (fun k q h => by simp at h)) rfl rfl hl.1 rfl (lv_room (Nat.le_of_ble_eq_true rfl)) dX4_clicksIt_24 ⟨Nat.zero_le _, Nat.zero_le _⟩) (fun r_5 hr_5 => ?_)
  exact ro_zret hx hb hr hlk dX4_clicksIt_27 (by assumption)
set_option maxHeartbeats 4000000 in
set_option maxRecDepth 100000 in
theorem c_X4_counts (l : Launch) (G : lzG) (a : Nat) (f : Nat → Int32) (s : Nat) (hs : s < 8) : Met l yX4_counts wsX4_counts ({ frames := 1, cells := 0, slots := 0, locals := 22 }) (va_Pc [.ref a, .int (nI s)] (roP G (lzI G a 64 f))) (vp_Si (fun r : Int32 => r = b2 (cntM f s))) 0 0 (fun _ => False) := by
  refine ro_start (cc := cX4_counts) (maxL := 2) (ret := (some .boolean)) (by decide) rfl (Nat.le_of_ble_eq_true rfl) ?_
  intro pp ee ss mm bl me cd hx hb hr hlk hml hts hown hP hK ls hl
  have hown : ss.vm.findClass RX4 = some mm.cls := hown
  have hl : lv_has ls 2 [(0, .ref a), (1, .int (nI s))] := hl
  refine lv_aload_n hx hb dX4_counts_0 rfl (lv_at hl 0 rfl) ?_
  refine lv_iload_n hx hb dX4_counts_1 rfl (lv_at hl 1 rfl) ?_
  refine lv_iconst (v := 0) hx hb dX4_counts_2 (by decide) ?_
  refine ro_calli (va_runS (As := [.ref a, .int (nI s), .int 0]) (rest := []) ⟨hx, hb, hml, hown, hts⟩ (c_X4_of l G a f s 0 (by omega) (by decide)) (cwS 3 hts gX4_counts_X4_of rfl rfl rfl (by decide +kernel) ⟨Nat.le_of_ble_eq_true rfl, Nat.le_of_ble_eq_true rfl⟩) (ro_pre hK hP) rfl rfl hl.1 rfl (lv_room (Nat.le_of_ble_eq_true rfl)) dX4_counts_3 ⟨Nat.zero_le _, Nat.zero_le _⟩) (fun r_1 hr_1 => ?_)
  refine lz_top (y := f (4 + 5 * s)) hr_1 ?_
  refine lv_iconst (v := 4) hx hb dX4_counts_6 (by decide) ?_
  refine lv_icmp_lt (tgt := 19) hx hb dX4_counts_7 (by decide) (fun c_7 => ?_) (fun c_7 => ?_)
  · skip
    have c_7' := Int32.not_le.mpr c_7
    refine lv_iconst (v := 1) hx hb dX4_counts_19 (by decide) ?_
    refine lv_goto (tgt := 24) hx hb dX4_counts_20 (by decide) ?_
    exact ro_zret hx hb hr hlk dX4_counts_24 (by unfold cntM; first | (simp [c_7, c_7', b2]; done) | (simp_all [b2]; done))
  · skip
    have c_7' := Int32.not_lt.mp c_7
    refine lv_aload_n hx hb dX4_counts_10 rfl (lv_at hl 0 rfl) ?_
    refine lv_iload_n hx hb dX4_counts_11 rfl (lv_at hl 1 rfl) ?_
    refine lv_iconst (v := 4) hx hb dX4_counts_12 (by decide) ?_
    refine ro_calli (va_runS (As := [.ref a, .int (nI s), .int 4]) (rest := []) ⟨hx, hb, hml, hown, hts⟩ (c_X4_of l G a f s 4 (by omega) (by decide)) (cwS 3 hts gX4_counts_X4_of rfl rfl rfl (by decide +kernel) ⟨Nat.le_of_ble_eq_true rfl, Nat.le_of_ble_eq_true rfl⟩) (ro_pre hK hP) rfl rfl hl.1 rfl (lv_room (Nat.le_of_ble_eq_true rfl)) dX4_counts_13 ⟨Nat.zero_le _, Nat.zero_le _⟩) (fun r_2 hr_2 => ?_)
    refine lz_top (y := f (4 + 5 * s + 4)) hr_2 ?_
    refine lv_if_le (tgt := 23) hx hb dX4_counts_16 (by decide) (fun c_16 => ?_) (fun c_16 => ?_)
    · skip
      have c_16' := Int32.not_lt.mpr c_16
      refine lv_iconst (v := 0) hx hb dX4_counts_23 (by decide) ?_
      exact ro_zret hx hb hr hlk dX4_counts_24 (by unfold cntM; first | (simp [c_7, c_7', c_16, c_16', b2]; done) | (simp_all [b2]; done))
    · skip
      have c_16' := Int32.not_le.mp c_16
      refine lv_iconst (v := 1) hx hb dX4_counts_19 (by decide) ?_
      refine lv_goto (tgt := 24) hx hb dX4_counts_20 (by decide) ?_
      exact ro_zret hx hb hr hlk dX4_counts_24 (by unfold cntM; first | (simp [c_7, c_7', c_16, c_16', b2]; done) | (simp_all [b2]; done))
set_option maxHeartbeats 4000000 in
set_option maxRecDepth 100000 in
theorem c_X4_isLamp (l : Launch) (G : lzG) (a : Nat) (f : Nat → Int32) (s : Nat) (hs : s < 8) : Met l yX4_isLamp wsX4_isLamp ({ frames := 1, cells := 0, slots := 0, locals := 22 }) (va_Pc [.ref a, .int (nI s)] (roP G (lzI G a 64 f))) (vp_Si (fun r : Int32 => r = b2 (lampM f s))) 0 0 (fun _ => False) := by
  refine ro_start (cc := cX4_isLamp) (maxL := 2) (ret := (some .boolean)) (by decide) rfl (Nat.le_of_ble_eq_true rfl) ?_
  intro pp ee ss mm bl me cd hx hb hr hlk hml hts hown hP hK ls hl
  have hown : ss.vm.findClass RX4 = some mm.cls := hown
  have hl : lv_has ls 2 [(0, .ref a), (1, .int (nI s))] := hl
  refine lv_aload_n hx hb dX4_isLamp_0 rfl (lv_at hl 0 rfl) ?_
  refine lv_iload_n hx hb dX4_isLamp_1 rfl (lv_at hl 1 rfl) ?_
  refine lv_iconst (v := 4) hx hb dX4_isLamp_2 (by decide) ?_
  refine ro_calli (va_runS (As := [.ref a, .int (nI s), .int 4]) (rest := []) ⟨hx, hb, hml, hown, hts⟩ (c_X4_of l G a f s 4 (by omega) (by decide)) (cwS 3 hts gX4_isLamp_X4_of rfl rfl rfl (by decide +kernel) ⟨Nat.le_of_ble_eq_true rfl, Nat.le_of_ble_eq_true rfl⟩) (ro_pre hK hP) rfl rfl hl.1 rfl (lv_room (Nat.le_of_ble_eq_true rfl)) dX4_isLamp_3 ⟨Nat.zero_le _, Nat.zero_le _⟩) (fun r_1 hr_1 => ?_)
  refine lz_top (y := f (4 + 5 * s + 4)) hr_1 ?_
  refine lv_if_ne (tgt := 29) hx hb dX4_isLamp_6 (by decide) (fun c_6 => ?_) (fun c_6 => ?_)
  · skip
    refine lv_aload_n hx hb dX4_isLamp_29 rfl (lv_at hl 0 rfl) ?_
    refine lv_iload_n hx hb dX4_isLamp_30 rfl (lv_at hl 1 rfl) ?_
    refine lv_iconst (v := 4) hx hb dX4_isLamp_31 (by decide) ?_
    refine ro_calli (va_runS (As := [.ref a, .int (nI s), .int 4]) (rest := []) ⟨hx, hb, hml, hown, hts⟩ (c_X4_of l G a f s 4 (by omega) (by decide)) (cwS 3 hts gX4_isLamp_X4_of rfl rfl rfl (by decide +kernel) ⟨Nat.le_of_ble_eq_true rfl, Nat.le_of_ble_eq_true rfl⟩) (ro_pre hK hP) rfl rfl hl.1 rfl (lv_room (Nat.le_of_ble_eq_true rfl)) dX4_isLamp_32 ⟨Nat.zero_le _, Nat.zero_le _⟩) (fun r_2 hr_2 => ?_)
    refine lz_top (y := f (4 + 5 * s + 4)) hr_2 ?_
    refine lv_iconst (v := 2) hx hb dX4_isLamp_35 (by decide) ?_
    refine lv_icmp_ne (tgt := 43) hx hb dX4_isLamp_36 (by decide) (fun c_36 => ?_) (fun c_36 => ?_)
    · skip
      refine lv_iconst (v := 0) hx hb dX4_isLamp_43 (by decide) ?_
      exact ro_zret hx hb hr hlk dX4_isLamp_44 (by unfold lampM; first | (simp [c_6, c_36, b2]; done) | (simp_all [b2]; done))
    · skip
      refine lv_iconst (v := 1) hx hb dX4_isLamp_39 (by decide) ?_
      refine lv_goto (tgt := 44) hx hb dX4_isLamp_40 (by decide) ?_
      exact ro_zret hx hb hr hlk dX4_isLamp_44 (by unfold lampM; first | (simp [c_6, c_36, b2]; done) | (simp_all [b2]; done))
  · skip
    refine lv_aload_n hx hb dX4_isLamp_9 rfl (lv_at hl 0 rfl) ?_
    refine lv_iload_n hx hb dX4_isLamp_10 rfl (lv_at hl 1 rfl) ?_
    refine lv_iconst (v := 1) hx hb dX4_isLamp_11 (by decide) ?_
    refine ro_calli (va_runS (As := [.ref a, .int (nI s), .int 1]) (rest := []) ⟨hx, hb, hml, hown, hts⟩ (c_X4_of l G a f s 1 (by omega) (by decide)) (cwS 3 hts gX4_isLamp_X4_of rfl rfl rfl (by decide +kernel) ⟨Nat.le_of_ble_eq_true rfl, Nat.le_of_ble_eq_true rfl⟩) (ro_pre hK hP) rfl rfl hl.1 rfl (lv_room (Nat.le_of_ble_eq_true rfl)) dX4_isLamp_12 ⟨Nat.zero_le _, Nat.zero_le _⟩) (fun r_3 hr_3 => ?_)
    refine lz_top (y := f (4 + 5 * s + 1)) hr_3 ?_
    refine lv_aload_n hx hb dX4_isLamp_15 rfl (lv_at hl 0 rfl) ?_
    refine lv_iconst (v := 0) hx hb dX4_isLamp_16 (by decide) ?_
    refine lz_iald (f := f) hx hb hK hP 0 rfl 0 (by omega) (Nat.le_of_ble_eq_true rfl) dX4_isLamp_17 ?_
    refine lv_icmp_lt (tgt := 25) hx hb dX4_isLamp_18 (by decide) (fun c_18 => ?_) (fun c_18 => ?_)
    · skip
      have c_18' := Int32.not_le.mpr c_18
      refine lv_iconst (v := 0) hx hb dX4_isLamp_25 (by decide) ?_
      refine lv_goto (tgt := 44) hx hb dX4_isLamp_26 (by decide) ?_
      exact ro_zret hx hb hr hlk dX4_isLamp_44 (by unfold lampM; first | (simp [c_6, c_18, c_18', b2]; done) | (simp_all [b2]; done))
    · skip
      have c_18' := Int32.not_lt.mp c_18
      refine lv_iconst (v := 1) hx hb dX4_isLamp_21 (by decide) ?_
      refine lv_goto (tgt := 44) hx hb dX4_isLamp_22 (by decide) ?_
      exact ro_zret hx hb hr hlk dX4_isLamp_44 (by unfold lampM; first | (simp [c_6, c_18, c_18', b2]; done) | (simp_all [b2]; done))
set_option maxHeartbeats 4000000 in
set_option maxRecDepth 100000 in
theorem c_X4_isWrong (l : Launch) (G : lzG) (a : Nat) (f : Nat → Int32) (v s : Nat) (hv : v < 5) (hs : s < 8) : Met l yX4_isWrong wsX4_isWrong ({ frames := 3, cells := 0, slots := 0, locals := 68 }) (va_Pc [.ref a, .int (nI v), .int (nI s)] (roP G (lzI G a 64 f))) (vp_Si (fun r : Int32 => r = b2 (wrgM f v s))) 0 0 (fun _ => False) := by
  refine ro_start (cc := cX4_isWrong) (maxL := 3) (ret := (some .boolean)) (by decide) rfl (Nat.le_of_ble_eq_true rfl) ?_
  intro pp ee ss mm bl me cd hx hb hr hlk hml hts hown hP hK ls hl
  have hown : ss.vm.findClass RX4 = some mm.cls := hown
  have hl : lv_has ls 3 [(0, .ref a), (1, .int (nI v)), (2, .int (nI s))] := hl
  refine lv_aload_n hx hb dX4_isWrong_0 rfl (lv_at hl 0 rfl) ?_
  refine lv_iload_n hx hb dX4_isWrong_1 rfl (lv_at hl 2 rfl) ?_
  refine ro_calli (va_runS (As := [.ref a, .int (nI s)]) (rest := []) ⟨hx, hb, hml, hown, hts⟩ (c_X4_counts l G a f s (by omega)) (cwS 2 hts gX4_isWrong_X4_counts rfl rfl rfl (by decide +kernel) ⟨Nat.le_of_ble_eq_true rfl, Nat.le_of_ble_eq_true rfl⟩) (ro_pre hK hP) rfl rfl hl.1 rfl (lv_room (Nat.le_of_ble_eq_true rfl)) dX4_isWrong_2 ⟨Nat.zero_le _, Nat.zero_le _⟩) (fun r_1 hr_1 => ?_)
  refine lv_if_eq (tgt := 26) hx hb dX4_isWrong_5 (by decide) (fun c_5 => ?_) (fun c_5 => ?_)
  · skip
    have c_5 := b2_z hr_1 c_5
    refine lv_iconst (v := 0) hx hb dX4_isWrong_26 (by decide) ?_
    exact ro_zret hx hb hr hlk dX4_isWrong_27 (by unfold wrgM; simp [c_5, b2])
  · skip
    have c_5 := b2_n hr_1 c_5
    refine lv_aload_n hx hb dX4_isWrong_8 rfl (lv_at hl 0 rfl) ?_
    refine lv_iload_n hx hb dX4_isWrong_9 rfl (lv_at hl 1 rfl) ?_
    refine lv_iload_n hx hb dX4_isWrong_10 rfl (lv_at hl 2 rfl) ?_
    refine ro_calli (va_runS (As := [.ref a, .int (nI v), .int (nI s)]) (rest := []) ⟨hx, hb, hml, hown, hts⟩ (c_X4_clicksIt l G a f v s (by omega) (by omega)) (cwS 3 hts gX4_isWrong_X4_clicksIt rfl rfl rfl (by decide +kernel) ⟨Nat.le_of_ble_eq_true rfl, Nat.le_of_ble_eq_true rfl⟩) (ro_pre hK hP) rfl rfl hl.1 rfl (lv_room (Nat.le_of_ble_eq_true rfl)) dX4_isWrong_11 ⟨Nat.zero_le _, Nat.zero_le _⟩) (fun r_2 hr_2 => ?_)
    refine lv_aload_n hx hb dX4_isWrong_14 rfl (lv_at hl 0 rfl) ?_
    refine lv_iload_n hx hb dX4_isWrong_15 rfl (lv_at hl 2 rfl) ?_
    refine ro_calli (va_runS (As := [.ref a, .int (nI s)]) (rest := [.int r_2]) ⟨hx, hb, hml, hown, hts⟩ (c_X4_isLamp l G a f s (by omega)) (cwS 2 hts gX4_isWrong_X4_isLamp rfl rfl rfl (by decide +kernel) ⟨Nat.le_of_ble_eq_true rfl, Nat.le_of_ble_eq_true rfl⟩) (ro_pre hK hP) rfl rfl hl.1 rfl (lv_room (Nat.le_of_ble_eq_true rfl)) dX4_isWrong_16 ⟨Nat.zero_le _, Nat.zero_le _⟩) (fun r_3 hr_3 => ?_)
    refine lv_icmp_eq (tgt := 26) hx hb dX4_isWrong_19 (by decide) (fun c_19 => ?_) (fun c_19 => ?_)
    · skip
      have c_19 := (b2_e hr_2 hr_3).mp c_19
      refine lv_iconst (v := 0) hx hb dX4_isWrong_26 (by decide) ?_
      exact ro_zret hx hb hr hlk dX4_isWrong_27 (by unfold wrgM; simp [c_5, c_19, b2])
    · skip
      have c_19 := bne_iff_ne.mpr (mt (b2_e hr_2 hr_3).mpr c_19)
      refine lv_iconst (v := 1) hx hb dX4_isWrong_22 (by decide) ?_
      refine lv_goto (tgt := 27) hx hb dX4_isWrong_23 (by decide) ?_
      exact ro_zret hx hb hr hlk dX4_isWrong_27 (by unfold wrgM; simp [c_5, c_19, b2])
set_option maxHeartbeats 4000000 in
set_option maxRecDepth 100000 in
theorem c_X4_wrongOf (l : Launch) (G : lzG) (a : Nat) (f : Nat → Int32) (v : Nat) (set : Int32) (N : Nat) (hv : v < 5) (hN : f 2 = nI N) (hN8 : N ≤ 8) : Met l yX4_wrongOf wsX4_wrongOf ({ frames := 4, cells := 0, slots := 0, locals := 90 }) (va_Pc [.ref a, .int (nI v), .int set] (roP G (lzI G a 64 f))) (vp_Si (fun r => r = wrgN f v set N)) 0 0 (fun _ => False) := by
  refine ro_start (cc := cX4_wrongOf) (maxL := 5) (ret := (some .int)) (by decide) rfl (Nat.le_of_ble_eq_true rfl) ?_
  intro pp ee ss mm bl me cd hx hb hr hlk hml hts hown hP hK ls hl
  have hown : ss.vm.findClass RX4 = some mm.cls := hown
  have hl : lv_has ls 5 [(0, .ref a), (1, .int (nI v)), (2, .int set)] := hl
  refine lv_iconst (v := 0) hx hb dX4_wrongOf_0 (by decide) ?_
  refine lv_istore_n (lv' := [(3, .int 0), (0, .ref a), (1, .int (nI v)), (2, .int set)]) hx hb dX4_wrongOf_1 rfl hl (by decide) rfl (fun ls hl => ?_)
  refine lv_iconst (v := 0) hx hb dX4_wrongOf_2 (by decide) ?_
  refine lv_istore (lv' := [(4, .int 0), (3, .int 0), (0, .ref a), (1, .int (nI v)), (2, .int set)]) hx hb dX4_wrongOf_3 hl (by decide) rfl (fun ls hl => ?_)
  have J_5 : ∀ (n9 : Nat), ∀ (k : Nat), (k ≤ N) → N - k < n9 → ∀ ls : Array Slot, lv_has ls 5 [(3, .int (cntI (fun s => hasI set s && wrgM f v s) k)), (4, .int (nI k)), (0, .ref a), (1, .int (nI v)), (2, .int set)] → W pp l ee ({ frames := 4, cells := 0, slots := 0, locals := 90 }) ss mm ([.ref a, .int (nI v), .int set] : List Value).toArray bl me cd ss.heap [] 0 0 (MQ bl (vp_Si (fun r => r = wrgN f v set N)) ([.ref a, .int (nI v), .int set] : List Value).toArray ss 0 0 (fun _ => False)) (F0 mm 5 ls []) := by
    intro n9
    induction n9 with
    | zero => intro k hk hn; exact absurd hn (Nat.not_lt_zero _)
    | succ n9 ih_5 =>
      intro k hk hn_5 ls hl
      refine lv_iload hx hb dX4_wrongOf_5 (lv_at hl 1 rfl) ?_
      refine lv_aload_n hx hb dX4_wrongOf_7 rfl (lv_at hl 2 rfl) ?_
      refine lv_iconst (v := 2) hx hb dX4_wrongOf_8 (by decide) ?_
      refine lz_iald (f := f) hx hb hK hP 0 rfl 2 (by omega) (Nat.le_of_ble_eq_true rfl) dX4_wrongOf_9 ?_
      refine lv_icmp_ge (tgt := 46) hx hb dX4_wrongOf_10 (by decide) (fun c_10 => ?_) (fun c_10 => ?_)
      · skip
        have c_10' := Int32.not_lt.mpr c_10
        have hk2 : N ≤ k := lz_ge hN c_10 (by omega) (by omega)
        obtain rfl : k = N := by omega
        refine lv_iload_n hx hb dX4_wrongOf_46 rfl (lv_at hl 0 rfl) ?_
        exact ro_iret hx hb hr hlk dX4_wrongOf_47 (rfl)
      · skip
        have c_10' := Int32.not_le.mp c_10
        have hk2 : k < N := lz_lt hN c_10 (by omega) (by omega)
        refine lv_iload_n hx hb dX4_wrongOf_13 rfl (lv_at hl 0 rfl) ?_
        refine lv_iload_n hx hb dX4_wrongOf_14 rfl (lv_at hl 4 rfl) ?_
        refine lv_iload hx hb dX4_wrongOf_15 (lv_at hl 1 rfl) ?_
        refine ro_calli (va_runS (As := [.int set, .int (nI k)]) (rest := [.int (cntI (fun s => hasI set s && wrgM f v s) k)]) ⟨hx, hb, hml, hown, hts⟩ (c_X4_has l G set k ) (cwS 2 hts gX4_wrongOf_X4_has rfl rfl rfl (by decide +kernel) ⟨Nat.le_of_ble_eq_true rfl, Nat.le_of_ble_eq_true rfl⟩) (ro_pre hK (fun k q h => by simp at h)) rfl rfl hl.1 rfl (lv_room (Nat.le_of_ble_eq_true rfl)) dX4_wrongOf_17 ⟨Nat.zero_le _, Nat.zero_le _⟩) (fun r_1 hr_1 => ?_)
        refine lv_if_eq (tgt := 37) hx hb dX4_wrongOf_20 (by decide) (fun c_20 => ?_) (fun c_20 => ?_)
        · skip
          have c_20 := b2_z hr_1 c_20
          refine lv_iconst (v := 0) hx hb dX4_wrongOf_37 (by decide) ?_
          refine lv_iadd hx hb dX4_wrongOf_38 ?_
          refine lv_topi (fun x_2 ex_2 => ?_)
          refine lv_istore_n (lv' := [(3, .int x_2), (4, .int (nI k)), (0, .ref a), (1, .int (nI v)), (2, .int set)]) hx hb dX4_wrongOf_39 rfl hl (by decide) rfl (fun ls hl => ?_)
          refine lv_iinc (v := nI (k + 1)) (lv' := [(4, .int (nI (k + 1))), (3, .int x_2), (0, .ref a), (1, .int (nI v)), (2, .int set)]) hx hb dX4_wrongOf_40 hl (k := 1) rfl (nI_1 _) (by decide) rfl (fun ls hl => ?_)
          refine lv_goto (tgt := 5) hx hb dX4_wrongOf_43 (by decide) ?_
          obtain rfl : x_2 = cntI (fun s => hasI set s && wrgM f v s) (k + 1) := by rw [ex_2]; simp [cntI, b2, c_10, c_10', c_20]
          exact ih_5 (k + 1) (by omega) (by omega) _ (lv_sub hl [1, 0, 2, 3, 4] rfl)
        · skip
          have c_20 := b2_n hr_1 c_20
          refine lv_aload_n hx hb dX4_wrongOf_23 rfl (lv_at hl 2 rfl) ?_
          refine lv_iload_n hx hb dX4_wrongOf_24 rfl (lv_at hl 3 rfl) ?_
          refine lv_iload hx hb dX4_wrongOf_25 (lv_at hl 1 rfl) ?_
          refine ro_calli (va_runS (As := [.ref a, .int (nI v), .int (nI k)]) (rest := [.int (cntI (fun s => hasI set s && wrgM f v s) k)]) ⟨hx, hb, hml, hown, hts⟩ (c_X4_isWrong l G a f v k (hv) (by omega)) (cwS 3 hts gX4_wrongOf_X4_isWrong rfl rfl rfl (by decide +kernel) ⟨Nat.le_of_ble_eq_true rfl, Nat.le_of_ble_eq_true rfl⟩) (ro_pre hK hP) rfl rfl hl.1 rfl (lv_room (Nat.le_of_ble_eq_true rfl)) dX4_wrongOf_27 ⟨Nat.zero_le _, Nat.zero_le _⟩) (fun r_3 hr_3 => ?_)
          refine lv_if_eq (tgt := 37) hx hb dX4_wrongOf_30 (by decide) (fun c_30 => ?_) (fun c_30 => ?_)
          · skip
            have c_30 := b2_z hr_3 c_30
            refine lv_iconst (v := 0) hx hb dX4_wrongOf_37 (by decide) ?_
            refine lv_iadd hx hb dX4_wrongOf_38 ?_
            refine lv_topi (fun x_4 ex_4 => ?_)
            refine lv_istore_n (lv' := [(3, .int x_4), (4, .int (nI k)), (0, .ref a), (1, .int (nI v)), (2, .int set)]) hx hb dX4_wrongOf_39 rfl hl (by decide) rfl (fun ls hl => ?_)
            refine lv_iinc (v := nI (k + 1)) (lv' := [(4, .int (nI (k + 1))), (3, .int x_4), (0, .ref a), (1, .int (nI v)), (2, .int set)]) hx hb dX4_wrongOf_40 hl (k := 1) rfl (nI_1 _) (by decide) rfl (fun ls hl => ?_)
            refine lv_goto (tgt := 5) hx hb dX4_wrongOf_43 (by decide) ?_
            obtain rfl : x_4 = cntI (fun s => hasI set s && wrgM f v s) (k + 1) := by rw [ex_4]; simp [cntI, b2, c_10, c_10', c_20, c_30]
            exact ih_5 (k + 1) (by omega) (by omega) _ (lv_sub hl [1, 0, 2, 3, 4] rfl)
          · skip
            have c_30 := b2_n hr_3 c_30
            refine lv_iconst (v := 1) hx hb dX4_wrongOf_33 (by decide) ?_
            refine lv_goto (tgt := 38) hx hb dX4_wrongOf_34 (by decide) ?_
            refine lv_iadd hx hb dX4_wrongOf_38 ?_
            refine lv_topi (fun x_5 ex_5 => ?_)
            refine lv_istore_n (lv' := [(3, .int x_5), (4, .int (nI k)), (0, .ref a), (1, .int (nI v)), (2, .int set)]) hx hb dX4_wrongOf_39 rfl hl (by decide) rfl (fun ls hl => ?_)
            refine lv_iinc (v := nI (k + 1)) (lv' := [(4, .int (nI (k + 1))), (3, .int x_5), (0, .ref a), (1, .int (nI v)), (2, .int set)]) hx hb dX4_wrongOf_40 hl (k := 1) rfl (nI_1 _) (by decide) rfl (fun ls hl => ?_)
            refine lv_goto (tgt := 5) hx hb dX4_wrongOf_43 (by decide) ?_
            obtain rfl : x_5 = cntI (fun s => hasI set s && wrgM f v s) (k + 1) := by rw [ex_5]; simp [cntI, b2, c_10, c_10', c_20, c_30]
            exact ih_5 (k + 1) (by omega) (by omega) _ (lv_sub hl [1, 0, 2, 3, 4] rfl)
  exact J_5 _ 0 (by omega) (Nat.lt_succ_self _) _ (lv_sub hl [1, 0, 2, 3, 4] rfl)
set_option maxHeartbeats 4000000 in
set_option maxRecDepth 100000 in
theorem c_X4_votesOf (l : Launch) (G : lzG) (a : Nat) (f : Nat → Int32) (N : Nat) (hN : f 2 = nI N) (hN8 : N ≤ 8) : Met l yX4_votesOf wsX4_votesOf ({ frames := 1, cells := 0, slots := 0, locals := 22 }) (va_Pc [.ref a] (roP G (lzI G a 64 f))) (vp_Si (fun r => r = sumI (fun s => f (4 + 5 * s + 2) + f (4 + 5 * s + 3)) N)) 0 0 (fun _ => False) := by
  refine ro_start (cc := cX4_votesOf) (maxL := 3) (ret := (some .int)) (by decide) rfl (Nat.le_of_ble_eq_true rfl) ?_
  intro pp ee ss mm bl me cd hx hb hr hlk hml hts hown hP hK ls hl
  have hown : ss.vm.findClass RX4 = some mm.cls := hown
  have hl : lv_has ls 3 [(0, .ref a)] := hl
  refine lv_iconst (v := 0) hx hb dX4_votesOf_0 (by decide) ?_
  refine lv_istore_n (lv' := [(1, .int 0), (0, .ref a)]) hx hb dX4_votesOf_1 rfl hl (by decide) rfl (fun ls hl => ?_)
  refine lv_iconst (v := 0) hx hb dX4_votesOf_2 (by decide) ?_
  refine lv_istore_n (lv' := [(2, .int 0), (1, .int 0), (0, .ref a)]) hx hb dX4_votesOf_3 rfl hl (by decide) rfl (fun ls hl => ?_)
  have J_4 : ∀ (n9 : Nat), ∀ (k : Nat), (k ≤ N) → N - k < n9 → ∀ ls : Array Slot, lv_has ls 3 [(1, .int (sumI (fun s => f (4 + 5 * s + 2) + f (4 + 5 * s + 3)) k)), (2, .int (nI k)), (0, .ref a)] → W pp l ee ({ frames := 1, cells := 0, slots := 0, locals := 22 }) ss mm ([.ref a] : List Value).toArray bl me cd ss.heap [] 0 0 (MQ bl (vp_Si (fun r => r = sumI (fun s => f (4 + 5 * s + 2) + f (4 + 5 * s + 3)) N)) ([.ref a] : List Value).toArray ss 0 0 (fun _ => False)) (F0 mm 4 ls []) := by
    intro n9
    induction n9 with
    | zero => intro k hk hn; exact absurd hn (Nat.not_lt_zero _)
    | succ n9 ih_4 =>
      intro k hk hn_4 ls hl
      refine lv_iload_n hx hb dX4_votesOf_4 rfl (lv_at hl 1 rfl) ?_
      refine lv_aload_n hx hb dX4_votesOf_5 rfl (lv_at hl 2 rfl) ?_
      refine lv_iconst (v := 2) hx hb dX4_votesOf_6 (by decide) ?_
      refine lz_iald (f := f) hx hb hK hP 0 rfl 2 (by omega) (Nat.le_of_ble_eq_true rfl) dX4_votesOf_7 ?_
      refine lv_icmp_ge (tgt := 33) hx hb dX4_votesOf_8 (by decide) (fun c_8 => ?_) (fun c_8 => ?_)
      · skip
        have c_8' := Int32.not_lt.mpr c_8
        have hk2 : N ≤ k := lz_ge hN c_8 (by omega) (by omega)
        obtain rfl : k = N := by omega
        refine lv_iload_n hx hb dX4_votesOf_33 rfl (lv_at hl 0 rfl) ?_
        exact ro_iret hx hb hr hlk dX4_votesOf_34 (rfl)
      · skip
        have c_8' := Int32.not_le.mp c_8
        have hk2 : k < N := lz_lt hN c_8 (by omega) (by omega)
        refine lv_iload_n hx hb dX4_votesOf_11 rfl (lv_at hl 0 rfl) ?_
        refine lv_aload_n hx hb dX4_votesOf_12 rfl (lv_at hl 2 rfl) ?_
        refine lv_iload_n hx hb dX4_votesOf_13 rfl (lv_at hl 1 rfl) ?_
        refine lv_iconst (v := 2) hx hb dX4_votesOf_14 (by decide) ?_
        refine ro_calli (va_runS (As := [.ref a, .int (nI k), .int 2]) (rest := [.int (sumI (fun s => f (4 + 5 * s + 2) + f (4 + 5 * s + 3)) k)]) ⟨hx, hb, hml, hown, hts⟩ (c_X4_of l G a f k 2 (by omega) (by decide)) (cwS 3 hts gX4_votesOf_X4_of rfl rfl rfl (by decide +kernel) ⟨Nat.le_of_ble_eq_true rfl, Nat.le_of_ble_eq_true rfl⟩) (ro_pre hK hP) rfl rfl hl.1 rfl (lv_room (Nat.le_of_ble_eq_true rfl)) dX4_votesOf_15 ⟨Nat.zero_le _, Nat.zero_le _⟩) (fun r_1 hr_1 => ?_)
        refine lz_top (y := f (4 + 5 * k + 2)) hr_1 ?_
        refine lv_aload_n hx hb dX4_votesOf_18 rfl (lv_at hl 2 rfl) ?_
        refine lv_iload_n hx hb dX4_votesOf_19 rfl (lv_at hl 1 rfl) ?_
        refine lv_iconst (v := 3) hx hb dX4_votesOf_20 (by decide) ?_
        refine ro_calli (va_runS (As := [.ref a, .int (nI k), .int 3]) (rest := [.int (f (4 + 5 * k + 2)), .int (sumI (fun s => f (4 + 5 * s + 2) + f (4 + 5 * s + 3)) k)]) ⟨hx, hb, hml, hown, hts⟩ (c_X4_of l G a f k 3 (by omega) (by decide)) (cwS 3 hts gX4_votesOf_X4_of rfl rfl rfl (by decide +kernel) ⟨Nat.le_of_ble_eq_true rfl, Nat.le_of_ble_eq_true rfl⟩) (ro_pre hK hP) rfl rfl hl.1 rfl (lv_room (Nat.le_of_ble_eq_true rfl)) dX4_votesOf_21 ⟨Nat.zero_le _, Nat.zero_le _⟩) (fun r_2 hr_2 => ?_)
        refine lz_top (y := f (4 + 5 * k + 3)) hr_2 ?_
        refine lv_iadd hx hb dX4_votesOf_24 ?_
        refine lv_iadd hx hb dX4_votesOf_25 ?_
        refine lv_topi (fun x_3 ex_3 => ?_)
        refine lv_istore_n (lv' := [(1, .int x_3), (2, .int (nI k)), (0, .ref a)]) hx hb dX4_votesOf_26 rfl hl (by decide) rfl (fun ls hl => ?_)
        refine lv_iinc (v := nI (k + 1)) (lv' := [(2, .int (nI (k + 1))), (1, .int x_3), (0, .ref a)]) hx hb dX4_votesOf_27 hl (k := 1) rfl (nI_1 _) (by decide) rfl (fun ls hl => ?_)
        refine lv_goto (tgt := 4) hx hb dX4_votesOf_30 (by decide) ?_
        obtain rfl : x_3 = sumI (fun s => f (4 + 5 * s + 2) + f (4 + 5 * s + 3)) (k + 1) := by rw [ex_3]; rfl
        exact ih_4 (k + 1) (by omega) (by omega) _ (lv_sub hl [1, 0, 2] rfl)
  exact J_4 _ 0 (by omega) (Nat.lt_succ_self _) _ (lv_sub hl [1, 0, 2] rfl)
set_option maxHeartbeats 4000000 in
set_option maxRecDepth 100000 in
theorem c_X1_isSquare (l : Launch) (G : lzG) (h : Nat) (q : Nat → Nat) (S : Nat → Int32) (F : Nat → Nat → Int32) (n : Int32)  : Met l yX1_isSquare wsX1_isSquare ({ frames := 1, cells := 0, slots := 0, locals := 22 }) (va_Pc [.ref h, .int n] (roP G (lzDoor G h q S F))) (vp_Si (fun r : Int32 => r = b2 (inR n 0 (S 2 - 1)))) 0 0 (fun _ => False) := by
  refine ro_start (cc := cX1_isSquare) (maxL := 2) (ret := (some .boolean)) (by decide) rfl (Nat.le_of_ble_eq_true rfl) ?_
  intro pp ee ss mm bl me cd hx hb hr hlk hml hts hown hP hK ls hl
  have hown : ss.vm.findClass RX1 = some mm.cls := hown
  have hw1 := hts (.fieldLink RX1 18 "LampSquares$Door" "squares" "I") (List.mem_of_getElem? (i := 1) rfl)
  have hw2 := hts (.static yX3_isIn) (List.mem_of_getElem? (i := 2) rfl)
  have hw3 := hts (.initialized RX3) (List.mem_of_getElem? (i := 3) rfl)
  have hu_wsX10 : ∀ w ∈ wsX10, w.before ([.ref h, .int n] : List Value).toArray ss = true := fun w h9 => hts w (List.mem_cons_of_mem _ (List.mem_append_right _ h9))
  have hl : lv_has ls 2 [(0, .ref h), (1, .int n)] := hl
  refine lv_iload_n hx hb dX1_isSquare_0 rfl (lv_at hl 1 rfl) ?_
  refine lv_iconst (v := 0) hx hb dX1_isSquare_1 (by decide) ?_
  refine lv_aload_n hx hb dX1_isSquare_2 rfl (lv_at hl 0 rfl) ?_
  refine lz_get (G := G) (ci := 1) (v := .int (S 2)) (C := RX1) (T := TX1) (N := 14) hx hb hu_wsX10 (fun _ h9 => h9) hown hK hP 0 rfl rfl 2 (by decide) hw1 rfl rfl dX1_isSquare_3 ?_
  refine lv_iconst (v := 1) hx hb dX1_isSquare_6 (by decide) ?_
  refine lv_isub hx hb dX1_isSquare_7 ?_
  refine ro_calli (va_runSN (As := [.int n, .int 0, .int ((S 2) - 1)]) (rest := []) ⟨hx, hb, hml, hown, hts⟩ (c_X3_isIn l G n 0 ((S 2) - 1) ) (⟨va_cnB (host := RX3) 3 hts gX1_isSquare_X3_isIn_n68 rfl rfl rfl (hK.2 _ (List.mem_of_getElem? (i := 0) rfl)) hw3 (by decide +kernel) ⟨Nat.le_of_ble_eq_true rfl, Nat.le_of_ble_eq_true rfl⟩, hw2, trivial⟩) (ro_pre hK (fun k q h => by simp at h)) rfl rfl hl.1 rfl (lv_room (Nat.le_of_ble_eq_true rfl)) dX1_isSquare_8 ⟨Nat.zero_le _, Nat.zero_le _⟩) (fun r_1 hr_1 => ?_)
  exact ro_zret hx hb hr hlk dX1_isSquare_11 (by assumption)
set_option maxHeartbeats 4000000 in
set_option maxRecDepth 100000 in
theorem c_X1_isVisitor (l : Launch) (G : lzG) (h : Nat) (q : Nat → Nat) (S : Nat → Int32) (F : Nat → Nat → Int32) (n : Int32)  : Met l yX1_isVisitor wsX1_isVisitor ({ frames := 1, cells := 0, slots := 0, locals := 22 }) (va_Pc [.ref h, .int n] (roP G (lzDoor G h q S F))) (vp_Si (fun r : Int32 => r = b2 (inR n 0 (S 3 - 1)))) 0 0 (fun _ => False) := by
  refine ro_start (cc := cX1_isVisitor) (maxL := 2) (ret := (some .boolean)) (by decide) rfl (Nat.le_of_ble_eq_true rfl) ?_
  intro pp ee ss mm bl me cd hx hb hr hlk hml hts hown hP hK ls hl
  have hown : ss.vm.findClass RX1 = some mm.cls := hown
  have hw1 := hts (.fieldLink RX1 21 "LampSquares$Door" "visitors" "I") (List.mem_of_getElem? (i := 1) rfl)
  have hw2 := hts (.static yX3_isIn) (List.mem_of_getElem? (i := 2) rfl)
  have hw3 := hts (.initialized RX3) (List.mem_of_getElem? (i := 3) rfl)
  have hu_wsX10 : ∀ w ∈ wsX10, w.before ([.ref h, .int n] : List Value).toArray ss = true := fun w h9 => hts w (List.mem_cons_of_mem _ (List.mem_append_right _ h9))
  have hl : lv_has ls 2 [(0, .ref h), (1, .int n)] := hl
  refine lv_iload_n hx hb dX1_isVisitor_0 rfl (lv_at hl 1 rfl) ?_
  refine lv_iconst (v := 0) hx hb dX1_isVisitor_1 (by decide) ?_
  refine lv_aload_n hx hb dX1_isVisitor_2 rfl (lv_at hl 0 rfl) ?_
  refine lz_get (G := G) (ci := 1) (v := .int (S 3)) (C := RX1) (T := TX1) (N := 14) hx hb hu_wsX10 (fun _ h9 => h9) hown hK hP 0 rfl rfl 3 (by decide) hw1 rfl rfl dX1_isVisitor_3 ?_
  refine lv_iconst (v := 1) hx hb dX1_isVisitor_6 (by decide) ?_
  refine lv_isub hx hb dX1_isVisitor_7 ?_
  refine ro_calli (va_runSN (As := [.int n, .int 0, .int ((S 3) - 1)]) (rest := []) ⟨hx, hb, hml, hown, hts⟩ (c_X3_isIn l G n 0 ((S 3) - 1) ) (⟨va_cnB (host := RX3) 3 hts gX1_isVisitor_X3_isIn_n68 rfl rfl rfl (hK.2 _ (List.mem_of_getElem? (i := 0) rfl)) hw3 (by decide +kernel) ⟨Nat.le_of_ble_eq_true rfl, Nat.le_of_ble_eq_true rfl⟩, hw2, trivial⟩) (ro_pre hK (fun k q h => by simp at h)) rfl rfl hl.1 rfl (lv_room (Nat.le_of_ble_eq_true rfl)) dX1_isVisitor_8 ⟨Nat.zero_le _, Nat.zero_le _⟩) (fun r_1 hr_1 => ?_)
  exact ro_zret hx hb hr hlk dX1_isVisitor_11 (by assumption)
set_option maxHeartbeats 4000000 in
set_option maxRecDepth 100000 in
theorem c_X1_isCounted (l : Launch) (G : lzG) (h : Nat) (q : Nat → Nat) (S : Nat → Int32) (F : Nat → Nat → Int32) (s : Nat) (hs : s < 8) : Met l yX1_isCounted wsX1_isCounted ({ frames := 1, cells := 0, slots := 0, locals := 21 }) (va_Pc [.ref h, .int (nI s)] (roP G (lzDoor G h q S F))) (vp_Si (fun r : Int32 => r = b2 (cntD F s))) 0 0 (fun _ => False) := by
  refine ro_start (cc := cX1_isCounted) (maxL := 2) (ret := (some .boolean)) (by decide) rfl (Nat.le_of_ble_eq_true rfl) ?_
  intro pp ee ss mm bl me cd hx hb hr hlk hml hts hown hP hK ls hl
  have hown : ss.vm.findClass RX1 = some mm.cls := hown
  have hw1 := hts (.fieldLink RX1 24 "LampSquares$Door" "kindOf" "[I") (List.mem_of_getElem? (i := 1) rfl)
  have hw2 := hts (.fieldLink RX1 37 "LampSquares$Door" "settledAs" "[I") (List.mem_of_getElem? (i := 2) rfl)
  have hw3 := hts (.constant RX1 61 (-1000000)) (List.mem_of_getElem? (i := 3) rfl)
  have hw4 := hts (.static yX3_isOfKind) (List.mem_of_getElem? (i := 4) rfl)
  have hw5 := hts (.initialized RX3) (List.mem_of_getElem? (i := 5) rfl)
  have hu_wsX10 : ∀ w ∈ wsX10, w.before ([.ref h, .int (nI s)] : List Value).toArray ss = true := fun w h9 => hts w (List.mem_cons_of_mem _ (List.mem_append_right _ h9))
  have hl : lv_has ls 2 [(0, .ref h), (1, .int (nI s))] := hl
  refine lv_aload_n hx hb dX1_isCounted_0 rfl (lv_at hl 0 rfl) ?_
  refine lz_get (G := G) (ci := 1) (v := .ref (q 4)) (C := RX1) (T := TX1) (N := 14) hx hb hu_wsX10 (fun _ h9 => h9) hown hK hP 0 rfl rfl 4 (by decide) hw1 rfl rfl dX1_isCounted_1 ?_
  refine lv_iload_n hx hb dX1_isCounted_4 rfl (lv_at hl 1 rfl) ?_
  refine lz_iald (f := F 4) hx hb hK hP 1 rfl s (by omega) (Nat.le_of_ble_eq_true rfl) dX1_isCounted_5 ?_
  refine lv_iconst (v := 1) hx hb dX1_isCounted_6 (by decide) ?_
  refine ro_calli (va_runSN (As := [.int ((F 4) s), .int 1]) (rest := []) ⟨hx, hb, hml, hown, hts⟩ (c_X3_isOfKind l G ((F 4) s) 1 ) (⟨va_cnB (host := RX3) 2 hts gX1_isCounted_X3_isOfKind_n76 rfl rfl rfl (hK.2 _ (List.mem_of_getElem? (i := 1) rfl)) hw5 (by decide +kernel) ⟨Nat.le_of_ble_eq_true rfl, Nat.le_of_ble_eq_true rfl⟩, hw4, trivial⟩) (ro_pre hK (fun k q h => by simp at h)) rfl rfl hl.1 rfl (lv_room (Nat.le_of_ble_eq_true rfl)) dX1_isCounted_7 ⟨Nat.zero_le _, Nat.zero_le _⟩) (fun r_1 hr_1 => ?_)
  refine lv_if_ne (tgt := 24) hx hb dX1_isCounted_10 (by decide) (fun c_10 => ?_) (fun c_10 => ?_)
  · skip
    have c_10 := b2_n hr_1 c_10
    refine lv_iconst (v := 1) hx hb dX1_isCounted_24 (by decide) ?_
    refine lv_goto (tgt := 29) hx hb dX1_isCounted_25 (by decide) ?_
    exact ro_zret hx hb hr hlk dX1_isCounted_29 (by unfold cntD; simp [c_10, b2])
  · skip
    have c_10 := b2_z hr_1 c_10
    refine lv_aload_n hx hb dX1_isCounted_13 rfl (lv_at hl 0 rfl) ?_
    refine lz_get (G := G) (ci := 1) (v := .ref (q 8)) (C := RX1) (T := TX1) (N := 14) hx hb hu_wsX10 (fun _ h9 => h9) hown hK hP 0 rfl rfl 8 (by decide) hw2 rfl rfl dX1_isCounted_14 ?_
    refine lv_iload_n hx hb dX1_isCounted_17 rfl (lv_at hl 1 rfl) ?_
    refine lz_iald (f := F 8) hx hb hK hP 5 rfl s (by omega) (Nat.le_of_ble_eq_true rfl) dX1_isCounted_18 ?_
    refine lv_ldc hx hb hown hw3 dX1_isCounted_19 ?_
    refine lv_icmp_eq (tgt := 28) hx hb dX1_isCounted_21 (by decide) (fun c_21 => ?_) (fun c_21 => ?_)
    · skip
      refine lv_iconst (v := 0) hx hb dX1_isCounted_28 (by decide) ?_
      exact ro_zret hx hb hr hlk dX1_isCounted_29 (by unfold cntD; simp [c_10, c_21, b2])
    · skip
      refine lv_iconst (v := 1) hx hb dX1_isCounted_24 (by decide) ?_
      refine lv_goto (tgt := 29) hx hb dX1_isCounted_25 (by decide) ?_
      exact ro_zret hx hb hr hlk dX1_isCounted_29 (by unfold cntD; simp [c_10, c_21, b2])
set_option maxHeartbeats 4000000 in
set_option maxRecDepth 100000 in
theorem c_X1_countedBits (l : Launch) (G : lzG) (h : Nat) (q : Nat → Nat) (S : Nat → Int32) (F : Nat → Nat → Int32) (N : Nat) (hN : S 2 = nI N) (hN8 : N ≤ 8) : Met l yX1_countedBits wsX1_countedBits ({ frames := 2, cells := 0, slots := 0, locals := 42 }) (va_Pc [.ref h] (roP G (lzDoor G h q S F))) (vp_Si (fun r => r = bitsI (cntD F) N)) 0 0 (fun _ => False) := by
  refine ro_start (cc := cX1_countedBits) (maxL := 3) (ret := (some .int)) (by decide) rfl (Nat.le_of_ble_eq_true rfl) ?_
  intro pp ee ss mm bl me cd hx hb hr hlk hml hts hown hP hK ls hl
  have hown : ss.vm.findClass RX1 = some mm.cls := hown
  have hw1 := hts (.fieldLink RX1 18 "LampSquares$Door" "squares" "I") (List.mem_of_getElem? (i := 1) rfl)
  have hu_wsX10 : ∀ w ∈ wsX10, w.before ([.ref h] : List Value).toArray ss = true := fun w h9 => hts w (List.mem_cons_of_mem _ (List.mem_append_right _ h9))
  have hl : lv_has ls 3 [(0, .ref h)] := hl
  refine lv_iconst (v := 0) hx hb dX1_countedBits_0 (by decide) ?_
  refine lv_istore_n (lv' := [(1, .int 0), (0, .ref h)]) hx hb dX1_countedBits_1 rfl hl (by decide) rfl (fun ls hl => ?_)
  refine lv_iconst (v := 0) hx hb dX1_countedBits_2 (by decide) ?_
  refine lv_istore_n (lv' := [(2, .int 0), (1, .int 0), (0, .ref h)]) hx hb dX1_countedBits_3 rfl hl (by decide) rfl (fun ls hl => ?_)
  have J_4 : ∀ (n9 : Nat), ∀ (k : Nat), (k ≤ N) → N - k < n9 → ∀ ls : Array Slot, lv_has ls 3 [(1, .int (bitsI (cntD F) k)), (2, .int (nI k)), (0, .ref h)] → W pp l ee ({ frames := 2, cells := 0, slots := 0, locals := 42 }) ss mm ([.ref h] : List Value).toArray bl me cd ss.heap [] 0 0 (MQ bl (vp_Si (fun r => r = bitsI (cntD F) N)) ([.ref h] : List Value).toArray ss 0 0 (fun _ => False)) (F0 mm 4 ls []) := by
    intro n9
    induction n9 with
    | zero => intro k hk hn; exact absurd hn (Nat.not_lt_zero _)
    | succ n9 ih_4 =>
      intro k hk hn_4 ls hl
      refine lv_iload_n hx hb dX1_countedBits_4 rfl (lv_at hl 1 rfl) ?_
      refine lv_aload_n hx hb dX1_countedBits_5 rfl (lv_at hl 2 rfl) ?_
      refine lz_get (G := G) (ci := 1) (v := .int (S 2)) (C := RX1) (T := TX1) (N := 14) hx hb hu_wsX10 (fun _ h9 => h9) hown hK hP 0 rfl rfl 2 (by decide) hw1 rfl rfl dX1_countedBits_6 ?_
      refine lv_icmp_ge (tgt := 32) hx hb dX1_countedBits_9 (by decide) (fun c_9 => ?_) (fun c_9 => ?_)
      · skip
        have c_9' := Int32.not_lt.mpr c_9
        have hk2 : N ≤ k := lz_ge hN c_9 (by omega) (by omega)
        obtain rfl : k = N := by omega
        refine lv_iload_n hx hb dX1_countedBits_32 rfl (lv_at hl 0 rfl) ?_
        exact ro_iret hx hb hr hlk dX1_countedBits_33 (rfl)
      · skip
        have c_9' := Int32.not_le.mp c_9
        have hk2 : k < N := lz_lt hN c_9 (by omega) (by omega)
        refine lv_aload_n hx hb dX1_countedBits_12 rfl (lv_at hl 2 rfl) ?_
        refine lv_iload_n hx hb dX1_countedBits_13 rfl (lv_at hl 1 rfl) ?_
        refine ro_calli (va_runV (As := [.int (nI k)]) (rest := []) ⟨hx, hb, hml, hown, hts⟩ (c_X1_isCounted l G h q S F k (by omega)) (cwV 1 hts gX1_countedBits_X1_isCounted rfl rfl rfl (by decide +kernel) ⟨Nat.le_of_ble_eq_true rfl, Nat.le_of_ble_eq_true rfl⟩) (ro_preV hK hP hP (ci := 1) (q0 := 0) rfl rfl) rfl rfl hl.1 rfl (lv_room (Nat.le_of_ble_eq_true rfl)) dX1_countedBits_14 ⟨Nat.zero_le _, Nat.zero_le _⟩) (fun r_1 hr_1 => ?_)
        refine lv_if_eq (tgt := 26) hx hb dX1_countedBits_17 (by decide) (fun c_17 => ?_) (fun c_17 => ?_)
        · skip
          have c_17 := b2_z hr_1 c_17
          refine lv_iinc (v := nI (k + 1)) (lv' := [(2, .int (nI (k + 1))), (1, .int (bitsI (cntD F) k)), (0, .ref h)]) hx hb dX1_countedBits_26 hl (k := 1) rfl (nI_1 _) (by decide) rfl (fun ls hl => ?_)
          refine lv_goto (tgt := 4) hx hb dX1_countedBits_29 (by decide) ?_
          rw [show (bitsI (cntD F) k : Int32) = bitsI (cntD F) (k + 1) from by simp [bitsI, c_9, c_9', c_17]] at hl
          exact ih_4 (k + 1) (by omega) (by omega) _ (lv_sub hl [1, 0, 2] rfl)
        · skip
          have c_17 := b2_n hr_1 c_17
          refine lv_iload_n hx hb dX1_countedBits_20 rfl (lv_at hl 0 rfl) ?_
          refine lv_iconst (v := 1) hx hb dX1_countedBits_21 (by decide) ?_
          refine lv_iload_n hx hb dX1_countedBits_22 rfl (lv_at hl 1 rfl) ?_
          refine lv_ishl hx hb dX1_countedBits_23 ?_
          refine lv_ior hx hb dX1_countedBits_24 ?_
          refine lv_topi (fun x_2 ex_2 => ?_)
          refine lv_istore_n (lv' := [(1, .int x_2), (2, .int (nI k)), (0, .ref h)]) hx hb dX1_countedBits_25 rfl hl (by decide) rfl (fun ls hl => ?_)
          refine lv_iinc (v := nI (k + 1)) (lv' := [(2, .int (nI (k + 1))), (1, .int x_2), (0, .ref h)]) hx hb dX1_countedBits_26 hl (k := 1) rfl (nI_1 _) (by decide) rfl (fun ls hl => ?_)
          refine lv_goto (tgt := 4) hx hb dX1_countedBits_29 (by decide) ?_
          obtain rfl : x_2 = bitsI (cntD F) (k + 1) := by rw [ex_2]; simp [bitsI, c_9, c_9', c_17]
          exact ih_4 (k + 1) (by omega) (by omega) _ (lv_sub hl [1, 0, 2] rfl)
  exact J_4 _ 0 (by omega) (Nat.lt_succ_self _) _ (lv_sub hl [1, 0, 2] rfl)
