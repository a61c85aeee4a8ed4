section LC2
variable {p : Program} {e : Env} {s : State} {m : MethodId} {below : List Frame} {meth : Method} {c : Code} {l : Launch} {b L : Nat} {xs : Nat → Int32} {G : lzG} {ad : Nat → Nat → Nat → Nat} {aK aV cells slots : Nat} {Q : State → Prop}
set_option maxHeartbeats 1000000 in
set_option maxRecDepth 100000 in
theorem lc_kinds (hx : p.tables.exec = Jvm.exec) (hb : c.code = cL_law) (hml : c.maxLocals = 4) (hown : s.vm.findClass RL = some m.cls) (hts : ∀ w ∈ wsL_law, w.before #[Value.ref b] s = true) (hX : va_X b L xs s s.heap) (hbl : b < s.heap.size) (hL : L ≤ 384) (hce : cells ≤ 600000) (hsl : slots ≤ 7302249) (hK : lzK G s) (hSt : lzStr aK aV (fun q => s.heap.size ≤ q) s s.heap) {w : lzSx × lzSm} (hR : RelS w) {i : Nat} (hi : i + 6 ≤ L) {H : Heap} {locs : List Loc} {ls : Array Slot} (hl : lv_has ls 4 [(3, .int (nI i)), (2, .ref (ad 11 0 0)), (1, .ref (ad 0 0 0)), (0, .ref b)]) (hP : va_P G.1 lzC (JW G ad w) H) (hD : va_D (fun q => s.heap.size ≤ q) (JW G ad w)) (hS : va_S (fun q => s.heap.size ≤ q) s.heap H locs)
    (kk : ∀ (w2 : lzSx × lzSm) (H2 : Heap) (locs2 : List Loc), RelS w2 → va_P G.1 lzC (JW G ad w2) H2 → va_D (fun q => s.heap.size ≤ q) (JW G ad w2) → va_S (fun q => s.heap.size ≤ q) s.heap H2 locs2 → W p l e room_1 s m #[Value.ref b] below meth c H2 locs2 cells slots Q (F0 m 1382 ls [])) : W p l e room_1 s m #[Value.ref b] below meth c H locs cells slots Q (F0 m 972 ls []) := by
  have hbA : ¬ (fun q => s.heap.size ≤ q) b := Nat.not_le.mpr hbl
  obtain ⟨⟨C, it, F, FS, RS, RF, MD, MF, cs⟩, B, wy⟩ := w
  refine lv_aload_n hx hb dL_law_972 rfl (lv_at hl 2 rfl) ?_
  refine lv_aload_n hx hb dL_law_973 rfl (lv_at hl 3 rfl) ?_
  refine lv_iload_n hx hb dL_law_974 rfl (lv_at hl 0 rfl) ?_
  refine lv_iconst (v := 1) hx hb dL_law_975 (by decide) ?_
  refine lv_iadd hx hb dL_law_976 ?_
  refine lz_top (y := nI (i + 1)) (by simp only [fa_lit, nI_add]) ?_
  refine va_sld hx hb hX hbl hbA hS (vp_in_nI (by omega) (by omega)) dL_law_977 ?_
  refine lv_aload_n hx hb dL_law_978 rfl (lv_at hl 3 rfl) ?_
  refine lv_iload_n hx hb dL_law_979 rfl (lv_at hl 0 rfl) ?_
  refine lv_iconst (v := 2) hx hb dL_law_980 (by decide) ?_
  refine lv_iadd hx hb dL_law_981 ?_
  refine lz_top (y := nI (i + 2)) (by simp only [fa_lit, nI_add]) ?_
  refine va_sld hx hb hX hbl hbA hS (vp_in_nI (by omega) (by omega)) dL_law_982 ?_
  refine lv_aload_n hx hb dL_law_983 rfl (lv_at hl 3 rfl) ?_
  refine lv_iload_n hx hb dL_law_984 rfl (lv_at hl 0 rfl) ?_
  refine lv_iconst (v := 3) hx hb dL_law_985 (by decide) ?_
  refine lv_iadd hx hb dL_law_986 ?_
  refine lz_top (y := nI (i + 3)) (by simp only [fa_lit, nI_add]) ?_
  refine va_sld hx hb hX hbl hbA hS (vp_in_nI (by omega) (by omega)) dL_law_987 ?_
  obtain ⟨P9, hc1, hn1⟩ : stepJ l G ad aK aV yX3_kinds wsX3_kinds yX4_kinds wsX4_kinds [.int (xs (nI (i + 1)).toNatClampNeg), .int (xs (nI (i + 2)).toNatClampNeg), .int (xs (nI (i + 3)).toNatClampNeg)] ((C, it, F, FS, RS, RF, MD, MF, cs), (B, wy)) := stepJ_of _ (st_kinds hR (xs (nI (i + 1)).toNatClampNeg) (xs (nI (i + 2)).toNatClampNeg) (xs (nI (i + 3)).toNatClampNeg))
  refine va_calli (va_runV (As := [.int (xs (nI (i + 1)).toNatClampNeg), .int (xs (nI (i + 2)).toNatClampNeg), .int (xs (nI (i + 3)).toNatClampNeg)]) (rest := []) ⟨hx, hb, hml, hown, hts⟩ hc1 (cwV 3 hts gL_law_X3_kinds rfl rfl rfl (by decide +kernel) ⟨(Nat.le_of_ble_eq_true rfl), (Nat.le_of_ble_eq_true rfl)⟩) (rws_preV hK hP hD hSt hS (jw_free hD) (va_recv hK.1 hP (ci := 3) (q0 := 0) rfl rfl)) rfl rfl hl.1 rfl (lv_room (Nat.le_of_ble_eq_true rfl)) dL_law_988 ⟨hce, hsl⟩) hS (fun q _ h => jw_free hD q h) (jw_free hD) (fun r1 w1 t9 H1 locs ht hvm hr1 hB hz1 hk1 hS => ?_)
  replace hB : va_P G.1 lzC (JW G ad w1) t9.heap := hB
  rw [ht] at hB
  have hD1 := jw_D w1 hD
  obtain ⟨Q9, hc2, hn2⟩ := hn1 r1 w1 hr1
  clear ht hvm hz1 hk1 hP hD hc1 hn1
  refine lv_aload_n hx hb dL_law_991 rfl (lv_at hl 1 rfl) ?_
  refine lv_aload_n hx hb dL_law_992 rfl (lv_at hl 3 rfl) ?_
  refine lv_iload_n hx hb dL_law_993 rfl (lv_at hl 0 rfl) ?_
  refine lv_iconst (v := 1) hx hb dL_law_994 (by decide) ?_
  refine lv_iadd hx hb dL_law_995 ?_
  refine lz_top (y := nI (i + 1)) (by simp only [fa_lit, nI_add]) ?_
  refine va_sld hx hb hX hbl hbA hS (vp_in_nI (by omega) (by omega)) dL_law_996 ?_
  refine lv_aload_n hx hb dL_law_997 rfl (lv_at hl 3 rfl) ?_
  refine lv_iload_n hx hb dL_law_998 rfl (lv_at hl 0 rfl) ?_
  refine lv_iconst (v := 2) hx hb dL_law_999 (by decide) ?_
  refine lv_iadd hx hb dL_law_1000 ?_
  refine lz_top (y := nI (i + 2)) (by simp only [fa_lit, nI_add]) ?_
  refine va_sld hx hb hX hbl hbA hS (vp_in_nI (by omega) (by omega)) dL_law_1001 ?_
  refine lv_aload_n hx hb dL_law_1002 rfl (lv_at hl 3 rfl) ?_
  refine lv_iload_n hx hb dL_law_1003 rfl (lv_at hl 0 rfl) ?_
  refine lv_iconst (v := 3) hx hb dL_law_1004 (by decide) ?_
  refine lv_iadd hx hb dL_law_1005 ?_
  refine lz_top (y := nI (i + 3)) (by simp only [fa_lit, nI_add]) ?_
  refine va_sld hx hb hX hbl hbA hS (vp_in_nI (by omega) (by omega)) dL_law_1006 ?_
  refine va_calli (va_runV (As := [.int (xs (nI (i + 1)).toNatClampNeg), .int (xs (nI (i + 2)).toNatClampNeg), .int (xs (nI (i + 3)).toNatClampNeg)]) (rest := [.int r1]) ⟨hx, hb, hml, hown, hts⟩ hc2 (cwV 3 hts gL_law_X4_kinds rfl rfl rfl (by decide +kernel) ⟨(Nat.le_of_ble_eq_true rfl), (Nat.le_of_ble_eq_true rfl)⟩) (rws_preV hK hB hD1 hSt hS (jw_free hD1) (va_recv hK.1 (P_split hB).2 (ci := 4) (q0 := 0) rfl rfl)) rfl rfl hl.1 rfl (lv_room (Nat.le_of_ble_eq_true rfl)) dL_law_1007 ⟨hce, hsl⟩) hS (fun q _ h => jw_free hD1 q h) (jw_free hD1) (fun r2 w2 t9 H2 locs ht hvm hr2 hB2 hz1 hk1 hS => ?_)
  replace hB2 : va_P G.1 lzC (JW G ad w2) t9.heap := hB2
  rw [ht] at hB2
  have hD2 := jw_D w2 hD1
  obtain ⟨hrr, hR2⟩ := hn2 r2 w2 hr2
  clear ht hvm hz1 hk1 hB hD1 hc2 hn2
  refine lv_icmp_eq (tgt := 1382) hx hb dL_law_1010 (by decide) (fun c_1 => ?_) (fun c_1 => absurd hrr c_1)
  exact kk w2 H2 locs hR2 hB2 hD2 hS

set_option maxHeartbeats 1000000 in
set_option maxRecDepth 100000 in
theorem lc_who (hx : p.tables.exec = Jvm.exec) (hb : c.code = cL_law) (hml : c.maxLocals = 4) (hown : s.vm.findClass RL = some m.cls) (hts : ∀ w ∈ wsL_law, w.before #[Value.ref b] s = true) (hX : va_X b L xs s s.heap) (hbl : b < s.heap.size) (hL : L ≤ 384) (hce : cells ≤ 600000) (hsl : slots ≤ 7302249) (hK : lzK G s) (hSt : lzStr aK aV (fun q => s.heap.size ≤ q) s s.heap) {w : lzSx × lzSm} (hR : RelS w) {i : Nat} (hi : i + 6 ≤ L) {H : Heap} {locs : List Loc} {ls : Array Slot} (hl : lv_has ls 4 [(3, .int (nI i)), (2, .ref (ad 11 0 0)), (1, .ref (ad 0 0 0)), (0, .ref b)]) (hP : va_P G.1 lzC (JW G ad w) H) (hD : va_D (fun q => s.heap.size ≤ q) (JW G ad w)) (hS : va_S (fun q => s.heap.size ≤ q) s.heap H locs)
    (kk : ∀ (w2 : lzSx × lzSm) (H2 : Heap) (locs2 : List Loc), RelS w2 → va_P G.1 lzC (JW G ad w2) H2 → va_D (fun q => s.heap.size ≤ q) (JW G ad w2) → va_S (fun q => s.heap.size ≤ q) s.heap H2 locs2 → W p l e room_1 s m #[Value.ref b] below meth c H2 locs2 cells slots Q (F0 m 1382 ls [])) : W p l e room_1 s m #[Value.ref b] below meth c H locs cells slots Q (F0 m 1015 ls []) := by
  have hbA : ¬ (fun q => s.heap.size ≤ q) b := Nat.not_le.mpr hbl
  obtain ⟨⟨C, it, F, FS, RS, RF, MD, MF, cs⟩, B, wy⟩ := w
  refine lv_aload_n hx hb dL_law_1015 rfl (lv_at hl 2 rfl) ?_
  refine lv_aload_n hx hb dL_law_1016 rfl (lv_at hl 3 rfl) ?_
  refine lv_iload_n hx hb dL_law_1017 rfl (lv_at hl 0 rfl) ?_
  refine lv_iconst (v := 1) hx hb dL_law_1018 (by decide) ?_
  refine lv_iadd hx hb dL_law_1019 ?_
  refine lz_top (y := nI (i + 1)) (by simp only [fa_lit, nI_add]) ?_
  refine va_sld hx hb hX hbl hbA hS (vp_in_nI (by omega) (by omega)) dL_law_1020 ?_
  refine lv_aload_n hx hb dL_law_1021 rfl (lv_at hl 3 rfl) ?_
  refine lv_iload_n hx hb dL_law_1022 rfl (lv_at hl 0 rfl) ?_
  refine lv_iconst (v := 2) hx hb dL_law_1023 (by decide) ?_
  refine lv_iadd hx hb dL_law_1024 ?_
  refine lz_top (y := nI (i + 2)) (by simp only [fa_lit, nI_add]) ?_
  refine va_sld hx hb hX hbl hbA hS (vp_in_nI (by omega) (by omega)) dL_law_1025 ?_
  obtain ⟨P9, hc1, hn1⟩ : stepJ l G ad aK aV yX3_who wsX3_who yX4_who wsX4_who [.int (xs (nI (i + 1)).toNatClampNeg), .int (xs (nI (i + 2)).toNatClampNeg)] ((C, it, F, FS, RS, RF, MD, MF, cs), (B, wy)) := stepJ_of _ (st_who hR (xs (nI (i + 1)).toNatClampNeg) (xs (nI (i + 2)).toNatClampNeg))
  refine va_calli (va_runV (As := [.int (xs (nI (i + 1)).toNatClampNeg), .int (xs (nI (i + 2)).toNatClampNeg)]) (rest := []) ⟨hx, hb, hml, hown, hts⟩ hc1 (cwV 2 hts gL_law_X3_who rfl rfl rfl (by decide +kernel) ⟨(Nat.le_of_ble_eq_true rfl), (Nat.le_of_ble_eq_true rfl)⟩) (rws_preV hK hP hD hSt hS (jw_free hD) (va_recv hK.1 hP (ci := 3) (q0 := 0) rfl rfl)) rfl rfl hl.1 rfl (lv_room (Nat.le_of_ble_eq_true rfl)) dL_law_1026 ⟨hce, hsl⟩) hS (fun q _ h => jw_free hD q h) (jw_free hD) (fun r1 w1 t9 H1 locs ht hvm hr1 hB hz1 hk1 hS => ?_)
  replace hB : va_P G.1 lzC (JW G ad w1) t9.heap := hB
  rw [ht] at hB
  have hD1 := jw_D w1 hD
  obtain ⟨Q9, hc2, hn2⟩ := hn1 r1 w1 hr1
  clear ht hvm hz1 hk1 hP hD hc1 hn1
  refine lv_aload_n hx hb dL_law_1029 rfl (lv_at hl 1 rfl) ?_
  refine lv_aload_n hx hb dL_law_1030 rfl (lv_at hl 3 rfl) ?_
  refine lv_iload_n hx hb dL_law_1031 rfl (lv_at hl 0 rfl) ?_
  refine lv_iconst (v := 1) hx hb dL_law_1032 (by decide) ?_
  refine lv_iadd hx hb dL_law_1033 ?_
  refine lz_top (y := nI (i + 1)) (by simp only [fa_lit, nI_add]) ?_
  refine va_sld hx hb hX hbl hbA hS (vp_in_nI (by omega) (by omega)) dL_law_1034 ?_
  refine lv_aload_n hx hb dL_law_1035 rfl (lv_at hl 3 rfl) ?_
  refine lv_iload_n hx hb dL_law_1036 rfl (lv_at hl 0 rfl) ?_
  refine lv_iconst (v := 2) hx hb dL_law_1037 (by decide) ?_
  refine lv_iadd hx hb dL_law_1038 ?_
  refine lz_top (y := nI (i + 2)) (by simp only [fa_lit, nI_add]) ?_
  refine va_sld hx hb hX hbl hbA hS (vp_in_nI (by omega) (by omega)) dL_law_1039 ?_
  refine va_calli (va_runV (As := [.int (xs (nI (i + 1)).toNatClampNeg), .int (xs (nI (i + 2)).toNatClampNeg)]) (rest := [.int r1]) ⟨hx, hb, hml, hown, hts⟩ hc2 (cwV 2 hts gL_law_X4_who rfl rfl rfl (by decide +kernel) ⟨(Nat.le_of_ble_eq_true rfl), (Nat.le_of_ble_eq_true rfl)⟩) (rws_preV hK hB hD1 hSt hS (jw_free hD1) (va_recv hK.1 (P_split hB).2 (ci := 4) (q0 := 0) rfl rfl)) rfl rfl hl.1 rfl (lv_room (Nat.le_of_ble_eq_true rfl)) dL_law_1040 ⟨hce, hsl⟩) hS (fun q _ h => jw_free hD1 q h) (jw_free hD1) (fun r2 w2 t9 H2 locs ht hvm hr2 hB2 hz1 hk1 hS => ?_)
  replace hB2 : va_P G.1 lzC (JW G ad w2) t9.heap := hB2
  rw [ht] at hB2
  have hD2 := jw_D w2 hD1
  obtain ⟨hrr, hR2⟩ := hn2 r2 w2 hr2
  clear ht hvm hz1 hk1 hB hD1 hc2 hn2
  refine lv_icmp_eq (tgt := 1382) hx hb dL_law_1043 (by decide) (fun c_1 => ?_) (fun c_1 => absurd hrr c_1)
  exact kk w2 H2 locs hR2 hB2 hD2 hS

set_option maxHeartbeats 1000000 in
set_option maxRecDepth 100000 in
theorem lc_cares (hx : p.tables.exec = Jvm.exec) (hb : c.code = cL_law) (hml : c.maxLocals = 4) (hown : s.vm.findClass RL = some m.cls) (hts : ∀ w ∈ wsL_law, w.before #[Value.ref b] s = true) (hX : va_X b L xs s s.heap) (hbl : b < s.heap.size) (hL : L ≤ 384) (hce : cells ≤ 600000) (hsl : slots ≤ 7302249) (hK : lzK G s) (hSt : lzStr aK aV (fun q => s.heap.size ≤ q) s s.heap) {w : lzSx × lzSm} (hR : RelS w) {i : Nat} (hi : i + 6 ≤ L) {H : Heap} {locs : List Loc} {ls : Array Slot} (hl : lv_has ls 4 [(3, .int (nI i)), (2, .ref (ad 11 0 0)), (1, .ref (ad 0 0 0)), (0, .ref b)]) (hP : va_P G.1 lzC (JW G ad w) H) (hD : va_D (fun q => s.heap.size ≤ q) (JW G ad w)) (hS : va_S (fun q => s.heap.size ≤ q) s.heap H locs)
    (kk : ∀ (w2 : lzSx × lzSm) (H2 : Heap) (locs2 : List Loc), RelS w2 → va_P G.1 lzC (JW G ad w2) H2 → va_D (fun q => s.heap.size ≤ q) (JW G ad w2) → va_S (fun q => s.heap.size ≤ q) s.heap H2 locs2 → W p l e room_1 s m #[Value.ref b] below meth c H2 locs2 cells slots Q (F0 m 1382 ls [])) : W p l e room_1 s m #[Value.ref b] below meth c H locs cells slots Q (F0 m 1048 ls []) := by
  have hbA : ¬ (fun q => s.heap.size ≤ q) b := Nat.not_le.mpr hbl
  obtain ⟨⟨C, it, F, FS, RS, RF, MD, MF, cs⟩, B, wy⟩ := w
  refine lv_aload_n hx hb dL_law_1048 rfl (lv_at hl 2 rfl) ?_
  refine lv_aload_n hx hb dL_law_1049 rfl (lv_at hl 3 rfl) ?_
  refine lv_iload_n hx hb dL_law_1050 rfl (lv_at hl 0 rfl) ?_
  refine lv_iconst (v := 1) hx hb dL_law_1051 (by decide) ?_
  refine lv_iadd hx hb dL_law_1052 ?_
  refine lz_top (y := nI (i + 1)) (by simp only [fa_lit, nI_add]) ?_
  refine va_sld hx hb hX hbl hbA hS (vp_in_nI (by omega) (by omega)) dL_law_1053 ?_
  refine lv_aload_n hx hb dL_law_1054 rfl (lv_at hl 3 rfl) ?_
  refine lv_iload_n hx hb dL_law_1055 rfl (lv_at hl 0 rfl) ?_
  refine lv_iconst (v := 2) hx hb dL_law_1056 (by decide) ?_
  refine lv_iadd hx hb dL_law_1057 ?_
  refine lz_top (y := nI (i + 2)) (by simp only [fa_lit, nI_add]) ?_
  refine va_sld hx hb hX hbl hbA hS (vp_in_nI (by omega) (by omega)) dL_law_1058 ?_
  refine lv_aload_n hx hb dL_law_1059 rfl (lv_at hl 3 rfl) ?_
  refine lv_iload_n hx hb dL_law_1060 rfl (lv_at hl 0 rfl) ?_
  refine lv_iconst (v := 3) hx hb dL_law_1061 (by decide) ?_
  refine lv_iadd hx hb dL_law_1062 ?_
  refine lz_top (y := nI (i + 3)) (by simp only [fa_lit, nI_add]) ?_
  refine va_sld hx hb hX hbl hbA hS (vp_in_nI (by omega) (by omega)) dL_law_1063 ?_
  obtain ⟨P9, hc1, hn1⟩ : stepJ l G ad aK aV yX3_cares wsX3_cares yX4_cares wsX4_cares [.int (xs (nI (i + 1)).toNatClampNeg), .int (xs (nI (i + 2)).toNatClampNeg), .int (xs (nI (i + 3)).toNatClampNeg)] ((C, it, F, FS, RS, RF, MD, MF, cs), (B, wy)) := stepJ_of _ (st_cares hR (xs (nI (i + 1)).toNatClampNeg) (xs (nI (i + 2)).toNatClampNeg) (xs (nI (i + 3)).toNatClampNeg))
  refine va_calli (va_runV (As := [.int (xs (nI (i + 1)).toNatClampNeg), .int (xs (nI (i + 2)).toNatClampNeg), .int (xs (nI (i + 3)).toNatClampNeg)]) (rest := []) ⟨hx, hb, hml, hown, hts⟩ hc1 (cwV 3 hts gL_law_X3_cares rfl rfl rfl (by decide +kernel) ⟨(Nat.le_of_ble_eq_true rfl), (Nat.le_of_ble_eq_true rfl)⟩) (rws_preV hK hP hD hSt hS (jw_free hD) (va_recv hK.1 hP (ci := 3) (q0 := 0) rfl rfl)) rfl rfl hl.1 rfl (lv_room (Nat.le_of_ble_eq_true rfl)) dL_law_1064 ⟨hce, hsl⟩) hS (fun q _ h => jw_free hD q h) (jw_free hD) (fun r1 w1 t9 H1 locs ht hvm hr1 hB hz1 hk1 hS => ?_)
  replace hB : va_P G.1 lzC (JW G ad w1) t9.heap := hB
  rw [ht] at hB
  have hD1 := jw_D w1 hD
  obtain ⟨Q9, hc2, hn2⟩ := hn1 r1 w1 hr1
  clear ht hvm hz1 hk1 hP hD hc1 hn1
  refine lv_aload_n hx hb dL_law_1067 rfl (lv_at hl 1 rfl) ?_
  refine lv_aload_n hx hb dL_law_1068 rfl (lv_at hl 3 rfl) ?_
  refine lv_iload_n hx hb dL_law_1069 rfl (lv_at hl 0 rfl) ?_
  refine lv_iconst (v := 1) hx hb dL_law_1070 (by decide) ?_
  refine lv_iadd hx hb dL_law_1071 ?_
  refine lz_top (y := nI (i + 1)) (by simp only [fa_lit, nI_add]) ?_
  refine va_sld hx hb hX hbl hbA hS (vp_in_nI (by omega) (by omega)) dL_law_1072 ?_
  refine lv_aload_n hx hb dL_law_1073 rfl (lv_at hl 3 rfl) ?_
  refine lv_iload_n hx hb dL_law_1074 rfl (lv_at hl 0 rfl) ?_
  refine lv_iconst (v := 2) hx hb dL_law_1075 (by decide) ?_
  refine lv_iadd hx hb dL_law_1076 ?_
  refine lz_top (y := nI (i + 2)) (by simp only [fa_lit, nI_add]) ?_
  refine va_sld hx hb hX hbl hbA hS (vp_in_nI (by omega) (by omega)) dL_law_1077 ?_
  refine lv_aload_n hx hb dL_law_1078 rfl (lv_at hl 3 rfl) ?_
  refine lv_iload_n hx hb dL_law_1079 rfl (lv_at hl 0 rfl) ?_
  refine lv_iconst (v := 3) hx hb dL_law_1080 (by decide) ?_
  refine lv_iadd hx hb dL_law_1081 ?_
  refine lz_top (y := nI (i + 3)) (by simp only [fa_lit, nI_add]) ?_
  refine va_sld hx hb hX hbl hbA hS (vp_in_nI (by omega) (by omega)) dL_law_1082 ?_
  refine va_calli (va_runV (As := [.int (xs (nI (i + 1)).toNatClampNeg), .int (xs (nI (i + 2)).toNatClampNeg), .int (xs (nI (i + 3)).toNatClampNeg)]) (rest := [.int r1]) ⟨hx, hb, hml, hown, hts⟩ hc2 (cwV 3 hts gL_law_X4_cares rfl rfl rfl (by decide +kernel) ⟨(Nat.le_of_ble_eq_true rfl), (Nat.le_of_ble_eq_true rfl)⟩) (rws_preV hK hB hD1 hSt hS (jw_free hD1) (va_recv hK.1 (P_split hB).2 (ci := 4) (q0 := 0) rfl rfl)) rfl rfl hl.1 rfl (lv_room (Nat.le_of_ble_eq_true rfl)) dL_law_1083 ⟨hce, hsl⟩) hS (fun q _ h => jw_free hD1 q h) (jw_free hD1) (fun r2 w2 t9 H2 locs ht hvm hr2 hB2 hz1 hk1 hS => ?_)
  replace hB2 : va_P G.1 lzC (JW G ad w2) t9.heap := hB2
  rw [ht] at hB2
  have hD2 := jw_D w2 hD1
  obtain ⟨hrr, hR2⟩ := hn2 r2 w2 hr2
  clear ht hvm hz1 hk1 hB hD1 hc2 hn2
  refine lv_icmp_eq (tgt := 1382) hx hb dL_law_1086 (by decide) (fun c_1 => ?_) (fun c_1 => absurd hrr c_1)
  exact kk w2 H2 locs hR2 hB2 hD2 hS

set_option maxHeartbeats 1000000 in
set_option maxRecDepth 100000 in
theorem lc_slip (hx : p.tables.exec = Jvm.exec) (hb : c.code = cL_law) (hml : c.maxLocals = 4) (hown : s.vm.findClass RL = some m.cls) (hts : ∀ w ∈ wsL_law, w.before #[Value.ref b] s = true) (hX : va_X b L xs s s.heap) (hbl : b < s.heap.size) (hL : L ≤ 384) (hce : cells ≤ 600000) (hsl : slots ≤ 7302249) (hK : lzK G s) (hSt : lzStr aK aV (fun q => s.heap.size ≤ q) s s.heap) {w : lzSx × lzSm} (hR : RelS w) {i : Nat} (hi : i + 6 ≤ L) {H : Heap} {locs : List Loc} {ls : Array Slot} (hl : lv_has ls 4 [(3, .int (nI i)), (2, .ref (ad 11 0 0)), (1, .ref (ad 0 0 0)), (0, .ref b)]) (hP : va_P G.1 lzC (JW G ad w) H) (hD : va_D (fun q => s.heap.size ≤ q) (JW G ad w)) (hS : va_S (fun q => s.heap.size ≤ q) s.heap H locs)
    (kk : ∀ (w2 : lzSx × lzSm) (H2 : Heap) (locs2 : List Loc), RelS w2 → va_P G.1 lzC (JW G ad w2) H2 → va_D (fun q => s.heap.size ≤ q) (JW G ad w2) → va_S (fun q => s.heap.size ≤ q) s.heap H2 locs2 → W p l e room_1 s m #[Value.ref b] below meth c H2 locs2 cells slots Q (F0 m 1382 ls [])) : W p l e room_1 s m #[Value.ref b] below meth c H locs cells slots Q (F0 m 1091 ls []) := by
  have hbA : ¬ (fun q => s.heap.size ≤ q) b := Nat.not_le.mpr hbl
  obtain ⟨⟨C, it, F, FS, RS, RF, MD, MF, cs⟩, B, wy⟩ := w
  refine lv_aload_n hx hb dL_law_1091 rfl (lv_at hl 2 rfl) ?_
  refine lv_aload_n hx hb dL_law_1092 rfl (lv_at hl 3 rfl) ?_
  refine lv_iload_n hx hb dL_law_1093 rfl (lv_at hl 0 rfl) ?_
  refine lv_iconst (v := 1) hx hb dL_law_1094 (by decide) ?_
  refine lv_iadd hx hb dL_law_1095 ?_
  refine lz_top (y := nI (i + 1)) (by simp only [fa_lit, nI_add]) ?_
  refine va_sld hx hb hX hbl hbA hS (vp_in_nI (by omega) (by omega)) dL_law_1096 ?_
  refine lv_aload_n hx hb dL_law_1097 rfl (lv_at hl 3 rfl) ?_
  refine lv_iload_n hx hb dL_law_1098 rfl (lv_at hl 0 rfl) ?_
  refine lv_iconst (v := 2) hx hb dL_law_1099 (by decide) ?_
  refine lv_iadd hx hb dL_law_1100 ?_
  refine lz_top (y := nI (i + 2)) (by simp only [fa_lit, nI_add]) ?_
  refine va_sld hx hb hX hbl hbA hS (vp_in_nI (by omega) (by omega)) dL_law_1101 ?_
  refine lv_aload_n hx hb dL_law_1102 rfl (lv_at hl 3 rfl) ?_
  refine lv_iload_n hx hb dL_law_1103 rfl (lv_at hl 0 rfl) ?_
  refine lv_iconst (v := 3) hx hb dL_law_1104 (by decide) ?_
  refine lv_iadd hx hb dL_law_1105 ?_
  refine lz_top (y := nI (i + 3)) (by simp only [fa_lit, nI_add]) ?_
  refine va_sld hx hb hX hbl hbA hS (vp_in_nI (by omega) (by omega)) dL_law_1106 ?_
  refine lv_aload_n hx hb dL_law_1107 rfl (lv_at hl 3 rfl) ?_
  refine lv_iload_n hx hb dL_law_1108 rfl (lv_at hl 0 rfl) ?_
  refine lv_iconst (v := 4) hx hb dL_law_1109 (by decide) ?_
  refine lv_iadd hx hb dL_law_1110 ?_
  refine lz_top (y := nI (i + 4)) (by simp only [fa_lit, nI_add]) ?_
  refine va_sld hx hb hX hbl hbA hS (vp_in_nI (by omega) (by omega)) dL_law_1111 ?_
  obtain ⟨P9, hc1, hn1⟩ : stepJl l G ad aK aV yX3_slip wsX3_slip yX4_slip wsX4_slip [.int (xs (nI (i + 1)).toNatClampNeg), .int (xs (nI (i + 2)).toNatClampNeg), .int (xs (nI (i + 3)).toNatClampNeg), .int (xs (nI (i + 4)).toNatClampNeg)] ((C, it, F, FS, RS, RF, MD, MF, cs), (B, wy)) := st_slip hR (xs (nI (i + 1)).toNatClampNeg) (xs (nI (i + 2)).toNatClampNeg) (xs (nI (i + 3)).toNatClampNeg) (xs (nI (i + 4)).toNatClampNeg)
  refine va_calll (va_runV (As := [.int (xs (nI (i + 1)).toNatClampNeg), .int (xs (nI (i + 2)).toNatClampNeg), .int (xs (nI (i + 3)).toNatClampNeg), .int (xs (nI (i + 4)).toNatClampNeg)]) (rest := []) ⟨hx, hb, hml, hown, hts⟩ hc1 (cwV 4 hts gL_law_X3_slip rfl rfl rfl (by decide +kernel) ⟨(Nat.le_of_ble_eq_true rfl), (Nat.le_of_ble_eq_true rfl)⟩) (rws_preV hK hP hD hSt hS (jw_free hD) (va_recv hK.1 hP (ci := 3) (q0 := 0) rfl rfl)) rfl rfl hl.1 rfl (lv_room (Nat.le_of_ble_eq_true rfl)) dL_law_1112 ⟨hce, hsl⟩) hS (fun q _ h => jw_free hD q h) (jw_free hD) (fun r1 w1 t9 H1 locs ht hvm hr1 hB hz1 hk1 hS => ?_)
  replace hB : va_P G.1 lzC (JW G ad w1) t9.heap := hB
  rw [ht] at hB
  have hD1 := jw_D w1 hD
  obtain ⟨Q9, hc2, hn2⟩ := hn1 r1 w1 hr1
  clear ht hvm hz1 hk1 hP hD hc1 hn1
  refine lv_aload_n hx hb dL_law_1115 rfl (lv_at hl 1 rfl) ?_
  refine lv_aload_n hx hb dL_law_1116 rfl (lv_at hl 3 rfl) ?_
  refine lv_iload_n hx hb dL_law_1117 rfl (lv_at hl 0 rfl) ?_
  refine lv_iconst (v := 1) hx hb dL_law_1118 (by decide) ?_
  refine lv_iadd hx hb dL_law_1119 ?_
  refine lz_top (y := nI (i + 1)) (by simp only [fa_lit, nI_add]) ?_
  refine va_sld hx hb hX hbl hbA hS (vp_in_nI (by omega) (by omega)) dL_law_1120 ?_
  refine lv_aload_n hx hb dL_law_1121 rfl (lv_at hl 3 rfl) ?_
  refine lv_iload_n hx hb dL_law_1122 rfl (lv_at hl 0 rfl) ?_
  refine lv_iconst (v := 2) hx hb dL_law_1123 (by decide) ?_
  refine lv_iadd hx hb dL_law_1124 ?_
  refine lz_top (y := nI (i + 2)) (by simp only [fa_lit, nI_add]) ?_
  refine va_sld hx hb hX hbl hbA hS (vp_in_nI (by omega) (by omega)) dL_law_1125 ?_
  refine lv_aload_n hx hb dL_law_1126 rfl (lv_at hl 3 rfl) ?_
  refine lv_iload_n hx hb dL_law_1127 rfl (lv_at hl 0 rfl) ?_
  refine lv_iconst (v := 3) hx hb dL_law_1128 (by decide) ?_
  refine lv_iadd hx hb dL_law_1129 ?_
  refine lz_top (y := nI (i + 3)) (by simp only [fa_lit, nI_add]) ?_
  refine va_sld hx hb hX hbl hbA hS (vp_in_nI (by omega) (by omega)) dL_law_1130 ?_
  refine lv_aload_n hx hb dL_law_1131 rfl (lv_at hl 3 rfl) ?_
  refine lv_iload_n hx hb dL_law_1132 rfl (lv_at hl 0 rfl) ?_
  refine lv_iconst (v := 4) hx hb dL_law_1133 (by decide) ?_
  refine lv_iadd hx hb dL_law_1134 ?_
  refine lz_top (y := nI (i + 4)) (by simp only [fa_lit, nI_add]) ?_
  refine va_sld hx hb hX hbl hbA hS (vp_in_nI (by omega) (by omega)) dL_law_1135 ?_
  refine va_calll (va_runV (As := [.int (xs (nI (i + 1)).toNatClampNeg), .int (xs (nI (i + 2)).toNatClampNeg), .int (xs (nI (i + 3)).toNatClampNeg), .int (xs (nI (i + 4)).toNatClampNeg)]) (rest := [.long r1]) ⟨hx, hb, hml, hown, hts⟩ hc2 (cwV 4 hts gL_law_X4_slip rfl rfl rfl (by decide +kernel) ⟨(Nat.le_of_ble_eq_true rfl), (Nat.le_of_ble_eq_true rfl)⟩) (rws_preV hK hB hD1 hSt hS (jw_free hD1) (va_recv hK.1 (P_split hB).2 (ci := 4) (q0 := 0) rfl rfl)) rfl rfl hl.1 rfl (lv_room (Nat.le_of_ble_eq_true rfl)) dL_law_1136 ⟨hce, hsl⟩) hS (fun q _ h => jw_free hD1 q h) (jw_free hD1) (fun r2 w2 t9 H2 locs ht hvm hr2 hB2 hz1 hk1 hS => ?_)
  replace hB2 : va_P G.1 lzC (JW G ad w2) t9.heap := hB2
  rw [ht] at hB2
  have hD2 := jw_D w2 hD1
  obtain ⟨hrr, hR2⟩ := hn2 r2 w2 hr2
  clear ht hvm hz1 hk1 hB hD1 hc2 hn2
  refine W.lcmp hx hb dL_law_1139 ?_
  refine lv_if_eq (tgt := 1382) hx hb dL_law_1140 (by decide) (fun c_1 => ?_) (fun c_1 => absurd ((lg_cmp_eq _ _).mpr hrr) c_1)
  exact kk w2 H2 locs hR2 hB2 hD2 hS

set_option maxHeartbeats 1000000 in
set_option maxRecDepth 100000 in
theorem lc_drawn (hx : p.tables.exec = Jvm.exec) (hb : c.code = cL_law) (hml : c.maxLocals = 4) (hown : s.vm.findClass RL = some m.cls) (hts : ∀ w ∈ wsL_law, w.before #[Value.ref b] s = true) (hX : va_X b L xs s s.heap) (hbl : b < s.heap.size) (hL : L ≤ 384) (hce : cells ≤ 600000) (hsl : slots ≤ 7302249) (hK : lzK G s) (hSt : lzStr aK aV (fun q => s.heap.size ≤ q) s s.heap) {w : lzSx × lzSm} (hR : RelS w) {i : Nat} (hi : i + 6 ≤ L) {H : Heap} {locs : List Loc} {ls : Array Slot} (hl : lv_has ls 4 [(3, .int (nI i)), (2, .ref (ad 11 0 0)), (1, .ref (ad 0 0 0)), (0, .ref b)]) (hP : va_P G.1 lzC (JW G ad w) H) (hD : va_D (fun q => s.heap.size ≤ q) (JW G ad w)) (hS : va_S (fun q => s.heap.size ≤ q) s.heap H locs)
    (kk : ∀ (w2 : lzSx × lzSm) (H2 : Heap) (locs2 : List Loc), RelS w2 → va_P G.1 lzC (JW G ad w2) H2 → va_D (fun q => s.heap.size ≤ q) (JW G ad w2) → va_S (fun q => s.heap.size ≤ q) s.heap H2 locs2 → W p l e room_1 s m #[Value.ref b] below meth c H2 locs2 cells slots Q (F0 m 1382 ls [])) : W p l e room_1 s m #[Value.ref b] below meth c H locs cells slots Q (F0 m 1145 ls []) := by
  have hbA : ¬ (fun q => s.heap.size ≤ q) b := Nat.not_le.mpr hbl
  obtain ⟨⟨C, it, F, FS, RS, RF, MD, MF, cs⟩, B, wy⟩ := w
  refine lv_aload_n hx hb dL_law_1145 rfl (lv_at hl 2 rfl) ?_
  refine lv_aload_n hx hb dL_law_1146 rfl (lv_at hl 3 rfl) ?_
  refine lv_iload_n hx hb dL_law_1147 rfl (lv_at hl 0 rfl) ?_
  refine lv_iconst (v := 1) hx hb dL_law_1148 (by decide) ?_
  refine lv_iadd hx hb dL_law_1149 ?_
  refine lz_top (y := nI (i + 1)) (by simp only [fa_lit, nI_add]) ?_
  refine va_sld hx hb hX hbl hbA hS (vp_in_nI (by omega) (by omega)) dL_law_1150 ?_
  refine lv_aload_n hx hb dL_law_1151 rfl (lv_at hl 3 rfl) ?_
  refine lv_iload_n hx hb dL_law_1152 rfl (lv_at hl 0 rfl) ?_
  refine lv_iconst (v := 2) hx hb dL_law_1153 (by decide) ?_
  refine lv_iadd hx hb dL_law_1154 ?_
  refine lz_top (y := nI (i + 2)) (by simp only [fa_lit, nI_add]) ?_
  refine va_sld hx hb hX hbl hbA hS (vp_in_nI (by omega) (by omega)) dL_law_1155 ?_
  refine lv_aload_n hx hb dL_law_1156 rfl (lv_at hl 3 rfl) ?_
  refine lv_iload_n hx hb dL_law_1157 rfl (lv_at hl 0 rfl) ?_
  refine lv_iconst (v := 3) hx hb dL_law_1158 (by decide) ?_
  refine lv_iadd hx hb dL_law_1159 ?_
  refine lz_top (y := nI (i + 3)) (by simp only [fa_lit, nI_add]) ?_
  refine va_sld hx hb hX hbl hbA hS (vp_in_nI (by omega) (by omega)) dL_law_1160 ?_
  obtain ⟨P9, hc1, hn1⟩ : stepJ l G ad aK aV yX3_drawn wsX3_drawn yX4_drawn wsX4_drawn [.int (xs (nI (i + 1)).toNatClampNeg), .int (xs (nI (i + 2)).toNatClampNeg), .int (xs (nI (i + 3)).toNatClampNeg)] ((C, it, F, FS, RS, RF, MD, MF, cs), (B, wy)) := stepJ_of _ (st_drawn hR (xs (nI (i + 1)).toNatClampNeg) (xs (nI (i + 2)).toNatClampNeg) (xs (nI (i + 3)).toNatClampNeg))
  refine va_calli (va_runV (As := [.int (xs (nI (i + 1)).toNatClampNeg), .int (xs (nI (i + 2)).toNatClampNeg), .int (xs (nI (i + 3)).toNatClampNeg)]) (rest := []) ⟨hx, hb, hml, hown, hts⟩ hc1 (cwV 3 hts gL_law_X3_drawn rfl rfl rfl (by decide +kernel) ⟨(Nat.le_of_ble_eq_true rfl), (Nat.le_of_ble_eq_true rfl)⟩) (rws_preV hK hP hD hSt hS (jw_free hD) (va_recv hK.1 hP (ci := 3) (q0 := 0) rfl rfl)) rfl rfl hl.1 rfl (lv_room (Nat.le_of_ble_eq_true rfl)) dL_law_1161 ⟨hce, hsl⟩) hS (fun q _ h => jw_free hD q h) (jw_free hD) (fun r1 w1 t9 H1 locs ht hvm hr1 hB hz1 hk1 hS => ?_)
  replace hB : va_P G.1 lzC (JW G ad w1) t9.heap := hB
  rw [ht] at hB
  have hD1 := jw_D w1 hD
  obtain ⟨Q9, hc2, hn2⟩ := hn1 r1 w1 hr1
  clear ht hvm hz1 hk1 hP hD hc1 hn1
  refine lv_aload_n hx hb dL_law_1164 rfl (lv_at hl 1 rfl) ?_
  refine lv_aload_n hx hb dL_law_1165 rfl (lv_at hl 3 rfl) ?_
  refine lv_iload_n hx hb dL_law_1166 rfl (lv_at hl 0 rfl) ?_
  refine lv_iconst (v := 1) hx hb dL_law_1167 (by decide) ?_
  refine lv_iadd hx hb dL_law_1168 ?_
  refine lz_top (y := nI (i + 1)) (by simp only [fa_lit, nI_add]) ?_
  refine va_sld hx hb hX hbl hbA hS (vp_in_nI (by omega) (by omega)) dL_law_1169 ?_
  refine lv_aload_n hx hb dL_law_1170 rfl (lv_at hl 3 rfl) ?_
  refine lv_iload_n hx hb dL_law_1171 rfl (lv_at hl 0 rfl) ?_
  refine lv_iconst (v := 2) hx hb dL_law_1172 (by decide) ?_
  refine lv_iadd hx hb dL_law_1173 ?_
  refine lz_top (y := nI (i + 2)) (by simp only [fa_lit, nI_add]) ?_
  refine va_sld hx hb hX hbl hbA hS (vp_in_nI (by omega) (by omega)) dL_law_1174 ?_
  refine lv_aload_n hx hb dL_law_1175 rfl (lv_at hl 3 rfl) ?_
  refine lv_iload_n hx hb dL_law_1176 rfl (lv_at hl 0 rfl) ?_
  refine lv_iconst (v := 3) hx hb dL_law_1177 (by decide) ?_
  refine lv_iadd hx hb dL_law_1178 ?_
  refine lz_top (y := nI (i + 3)) (by simp only [fa_lit, nI_add]) ?_
  refine va_sld hx hb hX hbl hbA hS (vp_in_nI (by omega) (by omega)) dL_law_1179 ?_
  refine va_calli (va_runV (As := [.int (xs (nI (i + 1)).toNatClampNeg), .int (xs (nI (i + 2)).toNatClampNeg), .int (xs (nI (i + 3)).toNatClampNeg)]) (rest := [.int r1]) ⟨hx, hb, hml, hown, hts⟩ hc2 (cwV 3 hts gL_law_X4_drawn rfl rfl rfl (by decide +kernel) ⟨(Nat.le_of_ble_eq_true rfl), (Nat.le_of_ble_eq_true rfl)⟩) (rws_preV hK hB hD1 hSt hS (jw_free hD1) (va_recv hK.1 (P_split hB).2 (ci := 4) (q0 := 0) rfl rfl)) rfl rfl hl.1 rfl (lv_room (Nat.le_of_ble_eq_true rfl)) dL_law_1180 ⟨hce, hsl⟩) hS (fun q _ h => jw_free hD1 q h) (jw_free hD1) (fun r2 w2 t9 H2 locs ht hvm hr2 hB2 hz1 hk1 hS => ?_)
  replace hB2 : va_P G.1 lzC (JW G ad w2) t9.heap := hB2
  rw [ht] at hB2
  have hD2 := jw_D w2 hD1
  obtain ⟨hrr, hR2⟩ := hn2 r2 w2 hr2
  clear ht hvm hz1 hk1 hB hD1 hc2 hn2
  refine lv_icmp_eq (tgt := 1382) hx hb dL_law_1183 (by decide) (fun c_1 => ?_) (fun c_1 => absurd hrr c_1)
  exact kk w2 H2 locs hR2 hB2 hD2 hS

set_option maxHeartbeats 1000000 in
set_option maxRecDepth 100000 in
theorem lc_image (hx : p.tables.exec = Jvm.exec) (hb : c.code = cL_law) (hml : c.maxLocals = 4) (hown : s.vm.findClass RL = some m.cls) (hts : ∀ w ∈ wsL_law, w.before #[Value.ref b] s = true) (hX : va_X b L xs s s.heap) (hbl : b < s.heap.size) (hL : L ≤ 384) (hce : cells ≤ 600000) (hsl : slots ≤ 7302249) (hK : lzK G s) (hSt : lzStr aK aV (fun q => s.heap.size ≤ q) s s.heap) {w : lzSx × lzSm} (hR : RelS w) {i : Nat} (hi : i + 6 ≤ L) {H : Heap} {locs : List Loc} {ls : Array Slot} (hl : lv_has ls 4 [(3, .int (nI i)), (2, .ref (ad 11 0 0)), (1, .ref (ad 0 0 0)), (0, .ref b)]) (hP : va_P G.1 lzC (JW G ad w) H) (hD : va_D (fun q => s.heap.size ≤ q) (JW G ad w)) (hS : va_S (fun q => s.heap.size ≤ q) s.heap H locs)
    (kk : ∀ (w2 : lzSx × lzSm) (H2 : Heap) (locs2 : List Loc), RelS w2 → va_P G.1 lzC (JW G ad w2) H2 → va_D (fun q => s.heap.size ≤ q) (JW G ad w2) → va_S (fun q => s.heap.size ≤ q) s.heap H2 locs2 → W p l e room_1 s m #[Value.ref b] below meth c H2 locs2 cells slots Q (F0 m 1382 ls [])) : W p l e room_1 s m #[Value.ref b] below meth c H locs cells slots Q (F0 m 1188 ls []) := by
  have hbA : ¬ (fun q => s.heap.size ≤ q) b := Nat.not_le.mpr hbl
  obtain ⟨⟨C, it, F, FS, RS, RF, MD, MF, cs⟩, B, wy⟩ := w
  refine lv_aload_n hx hb dL_law_1188 rfl (lv_at hl 2 rfl) ?_
  refine lv_aload_n hx hb dL_law_1189 rfl (lv_at hl 3 rfl) ?_
  refine lv_iload_n hx hb dL_law_1190 rfl (lv_at hl 0 rfl) ?_
  refine lv_iconst (v := 1) hx hb dL_law_1191 (by decide) ?_
  refine lv_iadd hx hb dL_law_1192 ?_
  refine lz_top (y := nI (i + 1)) (by simp only [fa_lit, nI_add]) ?_
  refine va_sld hx hb hX hbl hbA hS (vp_in_nI (by omega) (by omega)) dL_law_1193 ?_
  obtain ⟨P9, hc1, hn1⟩ : stepJ l G ad aK aV yX3_image wsX3_image yX4_image wsX4_image [.int (xs (nI (i + 1)).toNatClampNeg)] ((C, it, F, FS, RS, RF, MD, MF, cs), (B, wy)) := stepJ_of _ (st_image hR (xs (nI (i + 1)).toNatClampNeg))
  refine va_calli (va_runV (As := [.int (xs (nI (i + 1)).toNatClampNeg)]) (rest := []) ⟨hx, hb, hml, hown, hts⟩ hc1 (cwV 1 hts gL_law_X3_image rfl rfl rfl (by decide +kernel) ⟨(Nat.le_of_ble_eq_true rfl), (Nat.le_of_ble_eq_true rfl)⟩) (rws_preV hK hP hD hSt hS (jw_free hD) (va_recv hK.1 hP (ci := 3) (q0 := 0) rfl rfl)) rfl rfl hl.1 rfl (lv_room (Nat.le_of_ble_eq_true rfl)) dL_law_1194 ⟨hce, hsl⟩) hS (fun q _ h => jw_free hD q h) (jw_free hD) (fun r1 w1 t9 H1 locs ht hvm hr1 hB hz1 hk1 hS => ?_)
  replace hB : va_P G.1 lzC (JW G ad w1) t9.heap := hB
  rw [ht] at hB
  have hD1 := jw_D w1 hD
  obtain ⟨Q9, hc2, hn2⟩ := hn1 r1 w1 hr1
  clear ht hvm hz1 hk1 hP hD hc1 hn1
  refine lv_aload_n hx hb dL_law_1197 rfl (lv_at hl 1 rfl) ?_
  refine lv_aload_n hx hb dL_law_1198 rfl (lv_at hl 3 rfl) ?_
  refine lv_iload_n hx hb dL_law_1199 rfl (lv_at hl 0 rfl) ?_
  refine lv_iconst (v := 1) hx hb dL_law_1200 (by decide) ?_
  refine lv_iadd hx hb dL_law_1201 ?_
  refine lz_top (y := nI (i + 1)) (by simp only [fa_lit, nI_add]) ?_
  refine va_sld hx hb hX hbl hbA hS (vp_in_nI (by omega) (by omega)) dL_law_1202 ?_
  refine va_calli (va_runV (As := [.int (xs (nI (i + 1)).toNatClampNeg)]) (rest := [.int r1]) ⟨hx, hb, hml, hown, hts⟩ hc2 (cwV 1 hts gL_law_X4_image rfl rfl rfl (by decide +kernel) ⟨(Nat.le_of_ble_eq_true rfl), (Nat.le_of_ble_eq_true rfl)⟩) (rws_preV hK hB hD1 hSt hS (jw_free hD1) (va_recv hK.1 (P_split hB).2 (ci := 4) (q0 := 0) rfl rfl)) rfl rfl hl.1 rfl (lv_room (Nat.le_of_ble_eq_true rfl)) dL_law_1203 ⟨hce, hsl⟩) hS (fun q _ h => jw_free hD1 q h) (jw_free hD1) (fun r2 w2 t9 H2 locs ht hvm hr2 hB2 hz1 hk1 hS => ?_)
  replace hB2 : va_P G.1 lzC (JW G ad w2) t9.heap := hB2
  rw [ht] at hB2
  have hD2 := jw_D w2 hD1
  obtain ⟨hrr, hR2⟩ := hn2 r2 w2 hr2
  clear ht hvm hz1 hk1 hB hD1 hc2 hn2
  refine lv_icmp_eq (tgt := 1382) hx hb dL_law_1206 (by decide) (fun c_1 => ?_) (fun c_1 => absurd hrr c_1)
  exact kk w2 H2 locs hR2 hB2 hD2 hS

set_option maxHeartbeats 1000000 in
set_option maxRecDepth 100000 in
theorem lc_restore (hx : p.tables.exec = Jvm.exec) (hb : c.code = cL_law) (hml : c.maxLocals = 4) (hown : s.vm.findClass RL = some m.cls) (hts : ∀ w ∈ wsL_law, w.before #[Value.ref b] s = true) (hX : va_X b L xs s s.heap) (hbl : b < s.heap.size) (hL : L ≤ 384) (hce : cells ≤ 600000) (hsl : slots ≤ 7302249) (hK : lzK G s) (hSt : lzStr aK aV (fun q => s.heap.size ≤ q) s s.heap) {w : lzSx × lzSm} (hR : RelS w) {i : Nat} (hi : i + 6 ≤ L) {H : Heap} {locs : List Loc} {ls : Array Slot} (hl : lv_has ls 4 [(3, .int (nI i)), (2, .ref (ad 11 0 0)), (1, .ref (ad 0 0 0)), (0, .ref b)]) (hP : va_P G.1 lzC (JW G ad w) H) (hD : va_D (fun q => s.heap.size ≤ q) (JW G ad w)) (hS : va_S (fun q => s.heap.size ≤ q) s.heap H locs)
    (kk : ∀ (w2 : lzSx × lzSm) (H2 : Heap) (locs2 : List Loc), RelS w2 → va_P G.1 lzC (JW G ad w2) H2 → va_D (fun q => s.heap.size ≤ q) (JW G ad w2) → va_S (fun q => s.heap.size ≤ q) s.heap H2 locs2 → W p l e room_1 s m #[Value.ref b] below meth c H2 locs2 cells slots Q (F0 m 1382 ls [])) : W p l e room_1 s m #[Value.ref b] below meth c H locs cells slots Q (F0 m 1211 ls []) := by
  have hbA : ¬ (fun q => s.heap.size ≤ q) b := Nat.not_le.mpr hbl
  obtain ⟨⟨C, it, F, FS, RS, RF, MD, MF, cs⟩, B, wy⟩ := w
  refine lv_aload_n hx hb dL_law_1211 rfl (lv_at hl 2 rfl) ?_
  refine lv_aload_n hx hb dL_law_1212 rfl (lv_at hl 3 rfl) ?_
  refine lv_iload_n hx hb dL_law_1213 rfl (lv_at hl 0 rfl) ?_
  refine lv_iconst (v := 1) hx hb dL_law_1214 (by decide) ?_
  refine lv_iadd hx hb dL_law_1215 ?_
  refine lz_top (y := nI (i + 1)) (by simp only [fa_lit, nI_add]) ?_
  refine va_sld hx hb hX hbl hbA hS (vp_in_nI (by omega) (by omega)) dL_law_1216 ?_
  obtain ⟨P9, hc1, hn1⟩ : stepJ l G ad aK aV yX3_restore wsX3_restore yX4_restore wsX4_restore [.int (xs (nI (i + 1)).toNatClampNeg)] ((C, it, F, FS, RS, RF, MD, MF, cs), (B, wy)) := stepJ_of _ (st_restore hR (xs (nI (i + 1)).toNatClampNeg))
  refine va_calli (va_runV (As := [.int (xs (nI (i + 1)).toNatClampNeg)]) (rest := []) ⟨hx, hb, hml, hown, hts⟩ hc1 (cwV 1 hts gL_law_X3_restore rfl rfl rfl (by decide +kernel) ⟨(Nat.le_of_ble_eq_true rfl), (Nat.le_of_ble_eq_true rfl)⟩) (rws_preV hK hP hD hSt hS (jw_free hD) (va_recv hK.1 hP (ci := 3) (q0 := 0) rfl rfl)) rfl rfl hl.1 rfl (lv_room (Nat.le_of_ble_eq_true rfl)) dL_law_1217 ⟨hce, hsl⟩) hS (fun q _ h => jw_free hD q h) (jw_free hD) (fun r1 w1 t9 H1 locs ht hvm hr1 hB hz1 hk1 hS => ?_)
  replace hB : va_P G.1 lzC (JW G ad w1) t9.heap := hB
  rw [ht] at hB
  have hD1 := jw_D w1 hD
  obtain ⟨Q9, hc2, hn2⟩ := hn1 r1 w1 hr1
  clear ht hvm hz1 hk1 hP hD hc1 hn1
  refine lv_aload_n hx hb dL_law_1220 rfl (lv_at hl 1 rfl) ?_
  refine lv_aload_n hx hb dL_law_1221 rfl (lv_at hl 3 rfl) ?_
  refine lv_iload_n hx hb dL_law_1222 rfl (lv_at hl 0 rfl) ?_
  refine lv_iconst (v := 1) hx hb dL_law_1223 (by decide) ?_
  refine lv_iadd hx hb dL_law_1224 ?_
  refine lz_top (y := nI (i + 1)) (by simp only [fa_lit, nI_add]) ?_
  refine va_sld hx hb hX hbl hbA hS (vp_in_nI (by omega) (by omega)) dL_law_1225 ?_
  refine va_calli (va_runV (As := [.int (xs (nI (i + 1)).toNatClampNeg)]) (rest := [.int r1]) ⟨hx, hb, hml, hown, hts⟩ hc2 (cwV 1 hts gL_law_X4_restore rfl rfl rfl (by decide +kernel) ⟨(Nat.le_of_ble_eq_true rfl), (Nat.le_of_ble_eq_true rfl)⟩) (rws_preV hK hB hD1 hSt hS (jw_free hD1) (va_recv hK.1 (P_split hB).2 (ci := 4) (q0 := 0) rfl rfl)) rfl rfl hl.1 rfl (lv_room (Nat.le_of_ble_eq_true rfl)) dL_law_1226 ⟨hce, hsl⟩) hS (fun q _ h => jw_free hD1 q h) (jw_free hD1) (fun r2 w2 t9 H2 locs ht hvm hr2 hB2 hz1 hk1 hS => ?_)
  replace hB2 : va_P G.1 lzC (JW G ad w2) t9.heap := hB2
  rw [ht] at hB2
  have hD2 := jw_D w2 hD1
  obtain ⟨hrr, hR2⟩ := hn2 r2 w2 hr2
  clear ht hvm hz1 hk1 hB hD1 hc2 hn2
  refine lv_icmp_eq (tgt := 1382) hx hb dL_law_1229 (by decide) (fun c_1 => ?_) (fun c_1 => absurd hrr c_1)
  exact kk w2 H2 locs hR2 hB2 hD2 hS

set_option maxHeartbeats 1000000 in
set_option maxRecDepth 100000 in
theorem lc_kind (hx : p.tables.exec = Jvm.exec) (hb : c.code = cL_law) (hml : c.maxLocals = 4) (hown : s.vm.findClass RL = some m.cls) (hts : ∀ w ∈ wsL_law, w.before #[Value.ref b] s = true) (hX : va_X b L xs s s.heap) (hbl : b < s.heap.size) (hL : L ≤ 384) (hce : cells ≤ 600000) (hsl : slots ≤ 7302249) (hK : lzK G s) (hSt : lzStr aK aV (fun q => s.heap.size ≤ q) s s.heap) {w : lzSx × lzSm} (hR : RelS w) {i : Nat} (hi : i + 6 ≤ L) {H : Heap} {locs : List Loc} {ls : Array Slot} (hl : lv_has ls 4 [(3, .int (nI i)), (2, .ref (ad 11 0 0)), (1, .ref (ad 0 0 0)), (0, .ref b)]) (hP : va_P G.1 lzC (JW G ad w) H) (hD : va_D (fun q => s.heap.size ≤ q) (JW G ad w)) (hS : va_S (fun q => s.heap.size ≤ q) s.heap H locs)
    (kk : ∀ (w2 : lzSx × lzSm) (H2 : Heap) (locs2 : List Loc), RelS w2 → va_P G.1 lzC (JW G ad w2) H2 → va_D (fun q => s.heap.size ≤ q) (JW G ad w2) → va_S (fun q => s.heap.size ≤ q) s.heap H2 locs2 → W p l e room_1 s m #[Value.ref b] below meth c H2 locs2 cells slots Q (F0 m 1382 ls [])) : W p l e room_1 s m #[Value.ref b] below meth c H locs cells slots Q (F0 m 1234 ls []) := by
  have hbA : ¬ (fun q => s.heap.size ≤ q) b := Nat.not_le.mpr hbl
  obtain ⟨⟨C, it, F, FS, RS, RF, MD, MF, cs⟩, B, wy⟩ := w
  refine lv_aload_n hx hb dL_law_1234 rfl (lv_at hl 2 rfl) ?_
  refine lv_aload_n hx hb dL_law_1235 rfl (lv_at hl 3 rfl) ?_
  refine lv_iload_n hx hb dL_law_1236 rfl (lv_at hl 0 rfl) ?_
  refine lv_iconst (v := 1) hx hb dL_law_1237 (by decide) ?_
  refine lv_iadd hx hb dL_law_1238 ?_
  refine lz_top (y := nI (i + 1)) (by simp only [fa_lit, nI_add]) ?_
  refine va_sld hx hb hX hbl hbA hS (vp_in_nI (by omega) (by omega)) dL_law_1239 ?_
  obtain ⟨P9, hc1, hn1⟩ : stepJ l G ad aK aV yX3_kind wsX3_kind yX4_kind wsX4_kind [.int (xs (nI (i + 1)).toNatClampNeg)] ((C, it, F, FS, RS, RF, MD, MF, cs), (B, wy)) := stepJ_of _ (st_kind hR (xs (nI (i + 1)).toNatClampNeg))
  refine va_calli (va_runV (As := [.int (xs (nI (i + 1)).toNatClampNeg)]) (rest := []) ⟨hx, hb, hml, hown, hts⟩ hc1 (cwV 1 hts gL_law_X3_kind rfl rfl rfl (by decide +kernel) ⟨(Nat.le_of_ble_eq_true rfl), (Nat.le_of_ble_eq_true rfl)⟩) (rws_preV hK hP hD hSt hS (jw_free hD) (va_recv hK.1 hP (ci := 3) (q0 := 0) rfl rfl)) rfl rfl hl.1 rfl (lv_room (Nat.le_of_ble_eq_true rfl)) dL_law_1240 ⟨hce, hsl⟩) hS (fun q _ h => jw_free hD q h) (jw_free hD) (fun r1 w1 t9 H1 locs ht hvm hr1 hB hz1 hk1 hS => ?_)
  replace hB : va_P G.1 lzC (JW G ad w1) t9.heap := hB
  rw [ht] at hB
  have hD1 := jw_D w1 hD
  obtain ⟨Q9, hc2, hn2⟩ := hn1 r1 w1 hr1
  clear ht hvm hz1 hk1 hP hD hc1 hn1
  refine lv_aload_n hx hb dL_law_1243 rfl (lv_at hl 1 rfl) ?_
  refine lv_aload_n hx hb dL_law_1244 rfl (lv_at hl 3 rfl) ?_
  refine lv_iload_n hx hb dL_law_1245 rfl (lv_at hl 0 rfl) ?_
  refine lv_iconst (v := 1) hx hb dL_law_1246 (by decide) ?_
  refine lv_iadd hx hb dL_law_1247 ?_
  refine lz_top (y := nI (i + 1)) (by simp only [fa_lit, nI_add]) ?_
  refine va_sld hx hb hX hbl hbA hS (vp_in_nI (by omega) (by omega)) dL_law_1248 ?_
  refine va_calli (va_runV (As := [.int (xs (nI (i + 1)).toNatClampNeg)]) (rest := [.int r1]) ⟨hx, hb, hml, hown, hts⟩ hc2 (cwV 1 hts gL_law_X4_kind rfl rfl rfl (by decide +kernel) ⟨(Nat.le_of_ble_eq_true rfl), (Nat.le_of_ble_eq_true rfl)⟩) (rws_preV hK hB hD1 hSt hS (jw_free hD1) (va_recv hK.1 (P_split hB).2 (ci := 4) (q0 := 0) rfl rfl)) rfl rfl hl.1 rfl (lv_room (Nat.le_of_ble_eq_true rfl)) dL_law_1249 ⟨hce, hsl⟩) hS (fun q _ h => jw_free hD1 q h) (jw_free hD1) (fun r2 w2 t9 H2 locs ht hvm hr2 hB2 hz1 hk1 hS => ?_)
  replace hB2 : va_P G.1 lzC (JW G ad w2) t9.heap := hB2
  rw [ht] at hB2
  have hD2 := jw_D w2 hD1
  obtain ⟨hrr, hR2⟩ := hn2 r2 w2 hr2
  clear ht hvm hz1 hk1 hB hD1 hc2 hn2
  refine lv_icmp_eq (tgt := 1382) hx hb dL_law_1252 (by decide) (fun c_1 => ?_) (fun c_1 => absurd hrr c_1)
  exact kk w2 H2 locs hR2 hB2 hD2 hS

set_option maxHeartbeats 1000000 in
set_option maxRecDepth 100000 in
theorem lc_as (hx : p.tables.exec = Jvm.exec) (hb : c.code = cL_law) (hml : c.maxLocals = 4) (hown : s.vm.findClass RL = some m.cls) (hts : ∀ w ∈ wsL_law, w.before #[Value.ref b] s = true) (hX : va_X b L xs s s.heap) (hbl : b < s.heap.size) (hL : L ≤ 384) (hce : cells ≤ 600000) (hsl : slots ≤ 7302249) (hK : lzK G s) (hSt : lzStr aK aV (fun q => s.heap.size ≤ q) s s.heap) {w : lzSx × lzSm} (hR : RelS w) {i : Nat} (hi : i + 6 ≤ L) {H : Heap} {locs : List Loc} {ls : Array Slot} (hl : lv_has ls 4 [(3, .int (nI i)), (2, .ref (ad 11 0 0)), (1, .ref (ad 0 0 0)), (0, .ref b)]) (hP : va_P G.1 lzC (JW G ad w) H) (hD : va_D (fun q => s.heap.size ≤ q) (JW G ad w)) (hS : va_S (fun q => s.heap.size ≤ q) s.heap H locs)
    (kk : ∀ (w2 : lzSx × lzSm) (H2 : Heap) (locs2 : List Loc), RelS w2 → va_P G.1 lzC (JW G ad w2) H2 → va_D (fun q => s.heap.size ≤ q) (JW G ad w2) → va_S (fun q => s.heap.size ≤ q) s.heap H2 locs2 → W p l e room_1 s m #[Value.ref b] below meth c H2 locs2 cells slots Q (F0 m 1382 ls [])) : W p l e room_1 s m #[Value.ref b] below meth c H locs cells slots Q (F0 m 1257 ls []) := by
  have hbA : ¬ (fun q => s.heap.size ≤ q) b := Nat.not_le.mpr hbl
  obtain ⟨⟨C, it, F, FS, RS, RF, MD, MF, cs⟩, B, wy⟩ := w
  refine lv_aload_n hx hb dL_law_1257 rfl (lv_at hl 2 rfl) ?_
  refine lv_aload_n hx hb dL_law_1258 rfl (lv_at hl 3 rfl) ?_
  refine lv_iload_n hx hb dL_law_1259 rfl (lv_at hl 0 rfl) ?_
  refine lv_iconst (v := 1) hx hb dL_law_1260 (by decide) ?_
  refine lv_iadd hx hb dL_law_1261 ?_
  refine lz_top (y := nI (i + 1)) (by simp only [fa_lit, nI_add]) ?_
  refine va_sld hx hb hX hbl hbA hS (vp_in_nI (by omega) (by omega)) dL_law_1262 ?_
  refine lv_aload_n hx hb dL_law_1263 rfl (lv_at hl 3 rfl) ?_
  refine lv_iload_n hx hb dL_law_1264 rfl (lv_at hl 0 rfl) ?_
  refine lv_iconst (v := 2) hx hb dL_law_1265 (by decide) ?_
  refine lv_iadd hx hb dL_law_1266 ?_
  refine lz_top (y := nI (i + 2)) (by simp only [fa_lit, nI_add]) ?_
  refine va_sld hx hb hX hbl hbA hS (vp_in_nI (by omega) (by omega)) dL_law_1267 ?_
  obtain ⟨P9, hc1, hn1⟩ : stepJ l G ad aK aV yX3_as wsX3_as yX4_as wsX4_as [.int (xs (nI (i + 1)).toNatClampNeg), .int (xs (nI (i + 2)).toNatClampNeg)] ((C, it, F, FS, RS, RF, MD, MF, cs), (B, wy)) := stepJ_of _ (st_as hR (xs (nI (i + 1)).toNatClampNeg) (xs (nI (i + 2)).toNatClampNeg))
  refine va_calli (va_runV (As := [.int (xs (nI (i + 1)).toNatClampNeg), .int (xs (nI (i + 2)).toNatClampNeg)]) (rest := []) ⟨hx, hb, hml, hown, hts⟩ hc1 (cwV 2 hts gL_law_X3_as rfl rfl rfl (by decide +kernel) ⟨(Nat.le_of_ble_eq_true rfl), (Nat.le_of_ble_eq_true rfl)⟩) (rws_preV hK hP hD hSt hS (jw_free hD) (va_recv hK.1 hP (ci := 3) (q0 := 0) rfl rfl)) rfl rfl hl.1 rfl (lv_room (Nat.le_of_ble_eq_true rfl)) dL_law_1268 ⟨hce, hsl⟩) hS (fun q _ h => jw_free hD q h) (jw_free hD) (fun r1 w1 t9 H1 locs ht hvm hr1 hB hz1 hk1 hS => ?_)
  replace hB : va_P G.1 lzC (JW G ad w1) t9.heap := hB
  rw [ht] at hB
  have hD1 := jw_D w1 hD
  obtain ⟨Q9, hc2, hn2⟩ := hn1 r1 w1 hr1
  clear ht hvm hz1 hk1 hP hD hc1 hn1
  refine lv_aload_n hx hb dL_law_1271 rfl (lv_at hl 1 rfl) ?_
  refine lv_aload_n hx hb dL_law_1272 rfl (lv_at hl 3 rfl) ?_
  refine lv_iload_n hx hb dL_law_1273 rfl (lv_at hl 0 rfl) ?_
  refine lv_iconst (v := 1) hx hb dL_law_1274 (by decide) ?_
  refine lv_iadd hx hb dL_law_1275 ?_
  refine lz_top (y := nI (i + 1)) (by simp only [fa_lit, nI_add]) ?_
  refine va_sld hx hb hX hbl hbA hS (vp_in_nI (by omega) (by omega)) dL_law_1276 ?_
  refine lv_aload_n hx hb dL_law_1277 rfl (lv_at hl 3 rfl) ?_
  refine lv_iload_n hx hb dL_law_1278 rfl (lv_at hl 0 rfl) ?_
  refine lv_iconst (v := 2) hx hb dL_law_1279 (by decide) ?_
  refine lv_iadd hx hb dL_law_1280 ?_
  refine lz_top (y := nI (i + 2)) (by simp only [fa_lit, nI_add]) ?_
  refine va_sld hx hb hX hbl hbA hS (vp_in_nI (by omega) (by omega)) dL_law_1281 ?_
  refine va_calli (va_runV (As := [.int (xs (nI (i + 1)).toNatClampNeg), .int (xs (nI (i + 2)).toNatClampNeg)]) (rest := [.int r1]) ⟨hx, hb, hml, hown, hts⟩ hc2 (cwV 2 hts gL_law_X4_as rfl rfl rfl (by decide +kernel) ⟨(Nat.le_of_ble_eq_true rfl), (Nat.le_of_ble_eq_true rfl)⟩) (rws_preV hK hB hD1 hSt hS (jw_free hD1) (va_recv hK.1 (P_split hB).2 (ci := 4) (q0 := 0) rfl rfl)) rfl rfl hl.1 rfl (lv_room (Nat.le_of_ble_eq_true rfl)) dL_law_1282 ⟨hce, hsl⟩) hS (fun q _ h => jw_free hD1 q h) (jw_free hD1) (fun r2 w2 t9 H2 locs ht hvm hr2 hB2 hz1 hk1 hS => ?_)
  replace hB2 : va_P G.1 lzC (JW G ad w2) t9.heap := hB2
  rw [ht] at hB2
  have hD2 := jw_D w2 hD1
  obtain ⟨hrr, hR2⟩ := hn2 r2 w2 hr2
  clear ht hvm hz1 hk1 hB hD1 hc2 hn2
  refine lv_icmp_eq (tgt := 1382) hx hb dL_law_1285 (by decide) (fun c_1 => ?_) (fun c_1 => absurd hrr c_1)
  exact kk w2 H2 locs hR2 hB2 hD2 hS

set_option maxHeartbeats 1000000 in
set_option maxRecDepth 100000 in
theorem lc_ask (hx : p.tables.exec = Jvm.exec) (hb : c.code = cL_law) (hml : c.maxLocals = 4) (hown : s.vm.findClass RL = some m.cls) (hts : ∀ w ∈ wsL_law, w.before #[Value.ref b] s = true) (hX : va_X b L xs s s.heap) (hbl : b < s.heap.size) (hL : L ≤ 384) (hce : cells ≤ 600000) (hsl : slots ≤ 7302249) (hK : lzK G s) (hSt : lzStr aK aV (fun q => s.heap.size ≤ q) s s.heap) {w : lzSx × lzSm} (hR : RelS w) {i : Nat} (hi : i + 6 ≤ L) {H : Heap} {locs : List Loc} {ls : Array Slot} (hl : lv_has ls 4 [(3, .int (nI i)), (2, .ref (ad 11 0 0)), (1, .ref (ad 0 0 0)), (0, .ref b)]) (hP : va_P G.1 lzC (JW G ad w) H) (hD : va_D (fun q => s.heap.size ≤ q) (JW G ad w)) (hS : va_S (fun q => s.heap.size ≤ q) s.heap H locs)
    (kk : ∀ (w2 : lzSx × lzSm) (H2 : Heap) (locs2 : List Loc), RelS w2 → va_P G.1 lzC (JW G ad w2) H2 → va_D (fun q => s.heap.size ≤ q) (JW G ad w2) → va_S (fun q => s.heap.size ≤ q) s.heap H2 locs2 → W p l e room_1 s m #[Value.ref b] below meth c H2 locs2 cells slots Q (F0 m 1382 ls [])) : W p l e room_1 s m #[Value.ref b] below meth c H locs cells slots Q (F0 m 1290 ls []) := by
  have hbA : ¬ (fun q => s.heap.size ≤ q) b := Nat.not_le.mpr hbl
  obtain ⟨⟨C, it, F, FS, RS, RF, MD, MF, cs⟩, B, wy⟩ := w
  refine lv_aload_n hx hb dL_law_1290 rfl (lv_at hl 2 rfl) ?_
  refine lv_aload_n hx hb dL_law_1291 rfl (lv_at hl 3 rfl) ?_
  refine lv_iload_n hx hb dL_law_1292 rfl (lv_at hl 0 rfl) ?_
  refine lv_iconst (v := 1) hx hb dL_law_1293 (by decide) ?_
  refine lv_iadd hx hb dL_law_1294 ?_
  refine lz_top (y := nI (i + 1)) (by simp only [fa_lit, nI_add]) ?_
  refine va_sld hx hb hX hbl hbA hS (vp_in_nI (by omega) (by omega)) dL_law_1295 ?_
  refine lv_aload_n hx hb dL_law_1296 rfl (lv_at hl 3 rfl) ?_
  refine lv_iload_n hx hb dL_law_1297 rfl (lv_at hl 0 rfl) ?_
  refine lv_iconst (v := 2) hx hb dL_law_1298 (by decide) ?_
  refine lv_iadd hx hb dL_law_1299 ?_
  refine lz_top (y := nI (i + 2)) (by simp only [fa_lit, nI_add]) ?_
  refine va_sld hx hb hX hbl hbA hS (vp_in_nI (by omega) (by omega)) dL_law_1300 ?_
  obtain ⟨P9, hc1, hn1⟩ : stepJ l G ad aK aV yX3_ask wsX3_ask yX4_ask wsX4_ask [.int (xs (nI (i + 1)).toNatClampNeg), .int (xs (nI (i + 2)).toNatClampNeg)] ((C, it, F, FS, RS, RF, MD, MF, cs), (B, wy)) := stepJ_of _ (st_ask hR (xs (nI (i + 1)).toNatClampNeg) (xs (nI (i + 2)).toNatClampNeg))
  refine va_calli (va_runV (As := [.int (xs (nI (i + 1)).toNatClampNeg), .int (xs (nI (i + 2)).toNatClampNeg)]) (rest := []) ⟨hx, hb, hml, hown, hts⟩ hc1 (cwV 2 hts gL_law_X3_ask rfl rfl rfl (by decide +kernel) ⟨(Nat.le_of_ble_eq_true rfl), (Nat.le_of_ble_eq_true rfl)⟩) (rws_preV hK hP hD hSt hS (jw_free hD) (va_recv hK.1 hP (ci := 3) (q0 := 0) rfl rfl)) rfl rfl hl.1 rfl (lv_room (Nat.le_of_ble_eq_true rfl)) dL_law_1301 ⟨hce, hsl⟩) hS (fun q _ h => jw_free hD q h) (jw_free hD) (fun r1 w1 t9 H1 locs ht hvm hr1 hB hz1 hk1 hS => ?_)
  replace hB : va_P G.1 lzC (JW G ad w1) t9.heap := hB
  rw [ht] at hB
  have hD1 := jw_D w1 hD
  obtain ⟨Q9, hc2, hn2⟩ := hn1 r1 w1 hr1
  clear ht hvm hz1 hk1 hP hD hc1 hn1
  refine lv_aload_n hx hb dL_law_1304 rfl (lv_at hl 1 rfl) ?_
  refine lv_aload_n hx hb dL_law_1305 rfl (lv_at hl 3 rfl) ?_
  refine lv_iload_n hx hb dL_law_1306 rfl (lv_at hl 0 rfl) ?_
  refine lv_iconst (v := 1) hx hb dL_law_1307 (by decide) ?_
  refine lv_iadd hx hb dL_law_1308 ?_
  refine lz_top (y := nI (i + 1)) (by simp only [fa_lit, nI_add]) ?_
  refine va_sld hx hb hX hbl hbA hS (vp_in_nI (by omega) (by omega)) dL_law_1309 ?_
  refine lv_aload_n hx hb dL_law_1310 rfl (lv_at hl 3 rfl) ?_
  refine lv_iload_n hx hb dL_law_1311 rfl (lv_at hl 0 rfl) ?_
  refine lv_iconst (v := 2) hx hb dL_law_1312 (by decide) ?_
  refine lv_iadd hx hb dL_law_1313 ?_
  refine lz_top (y := nI (i + 2)) (by simp only [fa_lit, nI_add]) ?_
  refine va_sld hx hb hX hbl hbA hS (vp_in_nI (by omega) (by omega)) dL_law_1314 ?_
  refine va_calli (va_runV (As := [.int (xs (nI (i + 1)).toNatClampNeg), .int (xs (nI (i + 2)).toNatClampNeg)]) (rest := [.int r1]) ⟨hx, hb, hml, hown, hts⟩ hc2 (cwV 2 hts gL_law_X4_ask rfl rfl rfl (by decide +kernel) ⟨(Nat.le_of_ble_eq_true rfl), (Nat.le_of_ble_eq_true rfl)⟩) (rws_preV hK hB hD1 hSt hS (jw_free hD1) (va_recv hK.1 (P_split hB).2 (ci := 4) (q0 := 0) rfl rfl)) rfl rfl hl.1 rfl (lv_room (Nat.le_of_ble_eq_true rfl)) dL_law_1315 ⟨hce, hsl⟩) hS (fun q _ h => jw_free hD1 q h) (jw_free hD1) (fun r2 w2 t9 H2 locs ht hvm hr2 hB2 hz1 hk1 hS => ?_)
  replace hB2 : va_P G.1 lzC (JW G ad w2) t9.heap := hB2
  rw [ht] at hB2
  have hD2 := jw_D w2 hD1
  obtain ⟨hrr, hR2⟩ := hn2 r2 w2 hr2
  clear ht hvm hz1 hk1 hB hD1 hc2 hn2
  refine lv_icmp_eq (tgt := 1382) hx hb dL_law_1318 (by decide) (fun c_1 => ?_) (fun c_1 => absurd hrr c_1)
  exact kk w2 H2 locs hR2 hB2 hD2 hS

set_option maxHeartbeats 1000000 in
set_option maxRecDepth 100000 in
theorem lc_trace (hx : p.tables.exec = Jvm.exec) (hb : c.code = cL_law) (hml : c.maxLocals = 4) (hown : s.vm.findClass RL = some m.cls) (hts : ∀ w ∈ wsL_law, w.before #[Value.ref b] s = true) (hX : va_X b L xs s s.heap) (hbl : b < s.heap.size) (hL : L ≤ 384) (hce : cells ≤ 600000) (hsl : slots ≤ 7302249) (hK : lzK G s) (hSt : lzStr aK aV (fun q => s.heap.size ≤ q) s s.heap) {w : lzSx × lzSm} (hR : RelS w) {i : Nat} (hi : i + 6 ≤ L) {H : Heap} {locs : List Loc} {ls : Array Slot} (hl : lv_has ls 4 [(3, .int (nI i)), (2, .ref (ad 11 0 0)), (1, .ref (ad 0 0 0)), (0, .ref b)]) (hP : va_P G.1 lzC (JW G ad w) H) (hD : va_D (fun q => s.heap.size ≤ q) (JW G ad w)) (hS : va_S (fun q => s.heap.size ≤ q) s.heap H locs)
    (kk : ∀ (w2 : lzSx × lzSm) (H2 : Heap) (locs2 : List Loc), RelS w2 → va_P G.1 lzC (JW G ad w2) H2 → va_D (fun q => s.heap.size ≤ q) (JW G ad w2) → va_S (fun q => s.heap.size ≤ q) s.heap H2 locs2 → W p l e room_1 s m #[Value.ref b] below meth c H2 locs2 cells slots Q (F0 m 1382 ls [])) : W p l e room_1 s m #[Value.ref b] below meth c H locs cells slots Q (F0 m 1323 ls []) := by
  have hbA : ¬ (fun q => s.heap.size ≤ q) b := Nat.not_le.mpr hbl
  obtain ⟨⟨C, it, F, FS, RS, RF, MD, MF, cs⟩, B, wy⟩ := w
  refine lv_aload_n hx hb dL_law_1323 rfl (lv_at hl 2 rfl) ?_
  refine lv_aload_n hx hb dL_law_1324 rfl (lv_at hl 3 rfl) ?_
  refine lv_iload_n hx hb dL_law_1325 rfl (lv_at hl 0 rfl) ?_
  refine lv_iconst (v := 1) hx hb dL_law_1326 (by decide) ?_
  refine lv_iadd hx hb dL_law_1327 ?_
  refine lz_top (y := nI (i + 1)) (by simp only [fa_lit, nI_add]) ?_
  refine va_sld hx hb hX hbl hbA hS (vp_in_nI (by omega) (by omega)) dL_law_1328 ?_
  obtain ⟨P9, hc1, hn1⟩ : stepJ l G ad aK aV yX3_trace wsX3_trace yX4_trace wsX4_trace [.int (xs (nI (i + 1)).toNatClampNeg)] ((C, it, F, FS, RS, RF, MD, MF, cs), (B, wy)) := stepJ_of _ (st_trace hR (xs (nI (i + 1)).toNatClampNeg))
  refine va_calli (va_runV (As := [.int (xs (nI (i + 1)).toNatClampNeg)]) (rest := []) ⟨hx, hb, hml, hown, hts⟩ hc1 (cwV 1 hts gL_law_X3_trace rfl rfl rfl (by decide +kernel) ⟨(Nat.le_of_ble_eq_true rfl), (Nat.le_of_ble_eq_true rfl)⟩) (rws_preV hK hP hD hSt hS (jw_free hD) (va_recv hK.1 hP (ci := 3) (q0 := 0) rfl rfl)) rfl rfl hl.1 rfl (lv_room (Nat.le_of_ble_eq_true rfl)) dL_law_1329 ⟨hce, hsl⟩) hS (fun q _ h => jw_free hD q h) (jw_free hD) (fun r1 w1 t9 H1 locs ht hvm hr1 hB hz1 hk1 hS => ?_)
  replace hB : va_P G.1 lzC (JW G ad w1) t9.heap := hB
  rw [ht] at hB
  have hD1 := jw_D w1 hD
  obtain ⟨Q9, hc2, hn2⟩ := hn1 r1 w1 hr1
  clear ht hvm hz1 hk1 hP hD hc1 hn1
  refine lv_aload_n hx hb dL_law_1332 rfl (lv_at hl 1 rfl) ?_
  refine lv_aload_n hx hb dL_law_1333 rfl (lv_at hl 3 rfl) ?_
  refine lv_iload_n hx hb dL_law_1334 rfl (lv_at hl 0 rfl) ?_
  refine lv_iconst (v := 1) hx hb dL_law_1335 (by decide) ?_
  refine lv_iadd hx hb dL_law_1336 ?_
  refine lz_top (y := nI (i + 1)) (by simp only [fa_lit, nI_add]) ?_
  refine va_sld hx hb hX hbl hbA hS (vp_in_nI (by omega) (by omega)) dL_law_1337 ?_
  refine va_calli (va_runV (As := [.int (xs (nI (i + 1)).toNatClampNeg)]) (rest := [.int r1]) ⟨hx, hb, hml, hown, hts⟩ hc2 (cwV 1 hts gL_law_X4_trace rfl rfl rfl (by decide +kernel) ⟨(Nat.le_of_ble_eq_true rfl), (Nat.le_of_ble_eq_true rfl)⟩) (rws_preV hK hB hD1 hSt hS (jw_free hD1) (va_recv hK.1 (P_split hB).2 (ci := 4) (q0 := 0) rfl rfl)) rfl rfl hl.1 rfl (lv_room (Nat.le_of_ble_eq_true rfl)) dL_law_1338 ⟨hce, hsl⟩) hS (fun q _ h => jw_free hD1 q h) (jw_free hD1) (fun r2 w2 t9 H2 locs ht hvm hr2 hB2 hz1 hk1 hS => ?_)
  replace hB2 : va_P G.1 lzC (JW G ad w2) t9.heap := hB2
  rw [ht] at hB2
  have hD2 := jw_D w2 hD1
  obtain ⟨hrr, hR2⟩ := hn2 r2 w2 hr2
  clear ht hvm hz1 hk1 hB hD1 hc2 hn2
  refine lv_icmp_eq (tgt := 1382) hx hb dL_law_1341 (by decide) (fun c_1 => ?_) (fun c_1 => absurd hrr c_1)
  exact kk w2 H2 locs hR2 hB2 hD2 hS

set_option maxHeartbeats 1000000 in
set_option maxRecDepth 100000 in
theorem lc_count (hx : p.tables.exec = Jvm.exec) (hb : c.code = cL_law) (hml : c.maxLocals = 4) (hown : s.vm.findClass RL = some m.cls) (hts : ∀ w ∈ wsL_law, w.before #[Value.ref b] s = true) (hX : va_X b L xs s s.heap) (hbl : b < s.heap.size) (hL : L ≤ 384) (hce : cells ≤ 600000) (hsl : slots ≤ 7302249) (hK : lzK G s) (hSt : lzStr aK aV (fun q => s.heap.size ≤ q) s s.heap) {w : lzSx × lzSm} (hR : RelS w) {i : Nat} (hi : i + 6 ≤ L) {H : Heap} {locs : List Loc} {ls : Array Slot} (hl : lv_has ls 4 [(3, .int (nI i)), (2, .ref (ad 11 0 0)), (1, .ref (ad 0 0 0)), (0, .ref b)]) (hP : va_P G.1 lzC (JW G ad w) H) (hD : va_D (fun q => s.heap.size ≤ q) (JW G ad w)) (hS : va_S (fun q => s.heap.size ≤ q) s.heap H locs)
    (kk : ∀ (w2 : lzSx × lzSm) (H2 : Heap) (locs2 : List Loc), RelS w2 → va_P G.1 lzC (JW G ad w2) H2 → va_D (fun q => s.heap.size ≤ q) (JW G ad w2) → va_S (fun q => s.heap.size ≤ q) s.heap H2 locs2 → W p l e room_1 s m #[Value.ref b] below meth c H2 locs2 cells slots Q (F0 m 1382 ls [])) : W p l e room_1 s m #[Value.ref b] below meth c H locs cells slots Q (F0 m 1346 ls []) := by
  have hbA : ¬ (fun q => s.heap.size ≤ q) b := Nat.not_le.mpr hbl
  obtain ⟨⟨C, it, F, FS, RS, RF, MD, MF, cs⟩, B, wy⟩ := w
  refine lv_aload_n hx hb dL_law_1346 rfl (lv_at hl 2 rfl) ?_
  refine lv_aload_n hx hb dL_law_1347 rfl (lv_at hl 3 rfl) ?_
  refine lv_iload_n hx hb dL_law_1348 rfl (lv_at hl 0 rfl) ?_
  refine lv_iconst (v := 1) hx hb dL_law_1349 (by decide) ?_
  refine lv_iadd hx hb dL_law_1350 ?_
  refine lz_top (y := nI (i + 1)) (by simp only [fa_lit, nI_add]) ?_
  refine va_sld hx hb hX hbl hbA hS (vp_in_nI (by omega) (by omega)) dL_law_1351 ?_
  obtain ⟨P9, hc1, hn1⟩ : stepJ l G ad aK aV yX3_count wsX3_count yX4_count wsX4_count [.int (xs (nI (i + 1)).toNatClampNeg)] ((C, it, F, FS, RS, RF, MD, MF, cs), (B, wy)) := stepJ_of _ (st_count hR (xs (nI (i + 1)).toNatClampNeg))
  refine va_calli (va_runV (As := [.int (xs (nI (i + 1)).toNatClampNeg)]) (rest := []) ⟨hx, hb, hml, hown, hts⟩ hc1 (cwV 1 hts gL_law_X3_count rfl rfl rfl (by decide +kernel) ⟨(Nat.le_of_ble_eq_true rfl), (Nat.le_of_ble_eq_true rfl)⟩) (rws_preV hK hP hD hSt hS (jw_free hD) (va_recv hK.1 hP (ci := 3) (q0 := 0) rfl rfl)) rfl rfl hl.1 rfl (lv_room (Nat.le_of_ble_eq_true rfl)) dL_law_1352 ⟨hce, hsl⟩) hS (fun q _ h => jw_free hD q h) (jw_free hD) (fun r1 w1 t9 H1 locs ht hvm hr1 hB hz1 hk1 hS => ?_)
  replace hB : va_P G.1 lzC (JW G ad w1) t9.heap := hB
  rw [ht] at hB
  have hD1 := jw_D w1 hD
  obtain ⟨Q9, hc2, hn2⟩ := hn1 r1 w1 hr1
  clear ht hvm hz1 hk1 hP hD hc1 hn1
  refine lv_aload_n hx hb dL_law_1355 rfl (lv_at hl 1 rfl) ?_
  refine lv_aload_n hx hb dL_law_1356 rfl (lv_at hl 3 rfl) ?_
  refine lv_iload_n hx hb dL_law_1357 rfl (lv_at hl 0 rfl) ?_
  refine lv_iconst (v := 1) hx hb dL_law_1358 (by decide) ?_
  refine lv_iadd hx hb dL_law_1359 ?_
  refine lz_top (y := nI (i + 1)) (by simp only [fa_lit, nI_add]) ?_
  refine va_sld hx hb hX hbl hbA hS (vp_in_nI (by omega) (by omega)) dL_law_1360 ?_
  refine va_calli (va_runV (As := [.int (xs (nI (i + 1)).toNatClampNeg)]) (rest := [.int r1]) ⟨hx, hb, hml, hown, hts⟩ hc2 (cwV 1 hts gL_law_X4_count rfl rfl rfl (by decide +kernel) ⟨(Nat.le_of_ble_eq_true rfl), (Nat.le_of_ble_eq_true rfl)⟩) (rws_preV hK hB hD1 hSt hS (jw_free hD1) (va_recv hK.1 (P_split hB).2 (ci := 4) (q0 := 0) rfl rfl)) rfl rfl hl.1 rfl (lv_room (Nat.le_of_ble_eq_true rfl)) dL_law_1361 ⟨hce, hsl⟩) hS (fun q _ h => jw_free hD1 q h) (jw_free hD1) (fun r2 w2 t9 H2 locs ht hvm hr2 hB2 hz1 hk1 hS => ?_)
  replace hB2 : va_P G.1 lzC (JW G ad w2) t9.heap := hB2
  rw [ht] at hB2
  have hD2 := jw_D w2 hD1
  obtain ⟨hrr, hR2⟩ := hn2 r2 w2 hr2
  clear ht hvm hz1 hk1 hB hD1 hc2 hn2
  refine lv_icmp_eq (tgt := 1382) hx hb dL_law_1364 (by decide) (fun c_1 => ?_) (fun c_1 => absurd hrr c_1)
  exact kk w2 H2 locs hR2 hB2 hD2 hS

set_option maxHeartbeats 1000000 in
set_option maxRecDepth 100000 in
theorem lc_status (hx : p.tables.exec = Jvm.exec) (hb : c.code = cL_law) (hml : c.maxLocals = 4) (hown : s.vm.findClass RL = some m.cls) (hts : ∀ w ∈ wsL_law, w.before #[Value.ref b] s = true) (hX : va_X b L xs s s.heap) (hbl : b < s.heap.size) (hL : L ≤ 384) (hce : cells ≤ 600000) (hsl : slots ≤ 7302249) (hK : lzK G s) (hSt : lzStr aK aV (fun q => s.heap.size ≤ q) s s.heap) {w : lzSx × lzSm} (hR : RelS w) {i : Nat} (hi : i + 6 ≤ L) {H : Heap} {locs : List Loc} {ls : Array Slot} (hl : lv_has ls 4 [(3, .int (nI i)), (2, .ref (ad 11 0 0)), (1, .ref (ad 0 0 0)), (0, .ref b)]) (hP : va_P G.1 lzC (JW G ad w) H) (hD : va_D (fun q => s.heap.size ≤ q) (JW G ad w)) (hS : va_S (fun q => s.heap.size ≤ q) s.heap H locs)
    (kk : ∀ (w2 : lzSx × lzSm) (H2 : Heap) (locs2 : List Loc), RelS w2 → va_P G.1 lzC (JW G ad w2) H2 → va_D (fun q => s.heap.size ≤ q) (JW G ad w2) → va_S (fun q => s.heap.size ≤ q) s.heap H2 locs2 → W p l e room_1 s m #[Value.ref b] below meth c H2 locs2 cells slots Q (F0 m 1382 ls [])) : W p l e room_1 s m #[Value.ref b] below meth c H locs cells slots Q (F0 m 1369 ls []) := by
  have hbA : ¬ (fun q => s.heap.size ≤ q) b := Nat.not_le.mpr hbl
  obtain ⟨⟨C, it, F, FS, RS, RF, MD, MF, cs⟩, B, wy⟩ := w
  refine lv_aload_n hx hb dL_law_1369 rfl (lv_at hl 2 rfl) ?_
  obtain ⟨P9, hc1, hn1⟩ : stepJ l G ad aK aV yX3_status wsX3_status yX4_status wsX4_status [] ((C, it, F, FS, RS, RF, MD, MF, cs), (B, wy)) := stepJ_of _ (st_status hR)
  refine va_calli (va_runV (As := []) (rest := []) ⟨hx, hb, hml, hown, hts⟩ hc1 (cwV 0 hts gL_law_X3_status rfl rfl rfl (by decide +kernel) ⟨(Nat.le_of_ble_eq_true rfl), (Nat.le_of_ble_eq_true rfl)⟩) (rws_preV hK hP hD hSt hS (jw_free hD) (va_recv hK.1 hP (ci := 3) (q0 := 0) rfl rfl)) rfl rfl hl.1 rfl (lv_room (Nat.le_of_ble_eq_true rfl)) dL_law_1370 ⟨hce, hsl⟩) hS (fun q _ h => jw_free hD q h) (jw_free hD) (fun r1 w1 t9 H1 locs ht hvm hr1 hB hz1 hk1 hS => ?_)
  replace hB : va_P G.1 lzC (JW G ad w1) t9.heap := hB
  rw [ht] at hB
  have hD1 := jw_D w1 hD
  obtain ⟨Q9, hc2, hn2⟩ := hn1 r1 w1 hr1
  clear ht hvm hz1 hk1 hP hD hc1 hn1
  refine lv_aload_n hx hb dL_law_1373 rfl (lv_at hl 1 rfl) ?_
  refine va_calli (va_runV (As := []) (rest := [.int r1]) ⟨hx, hb, hml, hown, hts⟩ hc2 (cwV 0 hts gL_law_X4_status rfl rfl rfl (by decide +kernel) ⟨(Nat.le_of_ble_eq_true rfl), (Nat.le_of_ble_eq_true rfl)⟩) (rws_preV hK hB hD1 hSt hS (jw_free hD1) (va_recv hK.1 (P_split hB).2 (ci := 4) (q0 := 0) rfl rfl)) rfl rfl hl.1 rfl (lv_room (Nat.le_of_ble_eq_true rfl)) dL_law_1374 ⟨hce, hsl⟩) hS (fun q _ h => jw_free hD1 q h) (jw_free hD1) (fun r2 w2 t9 H2 locs ht hvm hr2 hB2 hz1 hk1 hS => ?_)
  replace hB2 : va_P G.1 lzC (JW G ad w2) t9.heap := hB2
  rw [ht] at hB2
  have hD2 := jw_D w2 hD1
  obtain ⟨hrr, hR2⟩ := hn2 r2 w2 hr2
  clear ht hvm hz1 hk1 hB hD1 hc2 hn2
  refine lv_icmp_eq (tgt := 1382) hx hb dL_law_1377 (by decide) (fun c_1 => ?_) (fun c_1 => absurd hrr c_1)
  exact kk w2 H2 locs hR2 hB2 hD2 hS
end LC2
