section LC1
variable {p : Program} {e : Env} {s : State} {m : MethodId} {below : List Frame} {meth : Method} {c : Code} {l : Launch} {b L : Nat} {xs : Nat → Int32} {G : lzG} {ad : Nat → Nat → Nat → Nat} {aK aV cells slots : Nat} {Q : State → Prop}
set_option maxHeartbeats 1000000 in
set_option maxRecDepth 100000 in
theorem lc_visitor (hx : p.tables.exec = Jvm.exec) (hb : c.code = cL_law) (hml : c.maxLocals = 4) (hown : s.vm.findClass RL = some m.cls) (hts : ∀ w ∈ wsL_law, w.before #[Value.ref b] s = true) (hX : va_X b L xs s s.heap) (hbl : b < s.heap.size) (hL : L ≤ 384) (hce : cells ≤ 600000) (hsl : slots ≤ 7302249) (hK : lzK G s) (hSt : lzStr aK aV (fun q => s.heap.size ≤ q) s s.heap) {w : lzSx × lzSm} (hR : RelS w) {i : Nat} (hi : i + 6 ≤ L) {H : Heap} {locs : List Loc} {ls : Array Slot} (hl : lv_has ls 4 [(3, .int (nI i)), (2, .ref (ad 11 0 0)), (1, .ref (ad 0 0 0)), (0, .ref b)]) (hP : va_P G.1 lzC (JW G ad w) H) (hD : va_D (fun q => s.heap.size ≤ q) (JW G ad w)) (hS : va_S (fun q => s.heap.size ≤ q) s.heap H locs)
    (kk : ∀ (w2 : lzSx × lzSm) (H2 : Heap) (locs2 : List Loc), RelS w2 → va_P G.1 lzC (JW G ad w2) H2 → va_D (fun q => s.heap.size ≤ q) (JW G ad w2) → va_S (fun q => s.heap.size ≤ q) s.heap H2 locs2 → W p l e room_1 s m #[Value.ref b] below meth c H2 locs2 cells slots Q (F0 m 1382 ls [])) : W p l e room_1 s m #[Value.ref b] below meth c H locs cells slots Q (F0 m 583 ls []) := by
  have hbA : ¬ (fun q => s.heap.size ≤ q) b := Nat.not_le.mpr hbl
  obtain ⟨⟨C, it, F, FS, RS, RF, MD, MF, cs⟩, B, wy⟩ := w
  refine lv_aload_n hx hb dL_law_583 rfl (lv_at hl 2 rfl) ?_
  refine lv_aload_n hx hb dL_law_584 rfl (lv_at hl 3 rfl) ?_
  refine lv_iload_n hx hb dL_law_585 rfl (lv_at hl 0 rfl) ?_
  refine lv_iconst (v := 1) hx hb dL_law_586 (by decide) ?_
  refine lv_iadd hx hb dL_law_587 ?_
  refine lz_top (y := nI (i + 1)) (by simp only [fa_lit, nI_add]) ?_
  refine va_sld hx hb hX hbl hbA hS (vp_in_nI (by omega) (by omega)) dL_law_588 ?_
  refine lv_aload_n hx hb dL_law_589 rfl (lv_at hl 3 rfl) ?_
  refine lv_iload_n hx hb dL_law_590 rfl (lv_at hl 0 rfl) ?_
  refine lv_iconst (v := 2) hx hb dL_law_591 (by decide) ?_
  refine lv_iadd hx hb dL_law_592 ?_
  refine lz_top (y := nI (i + 2)) (by simp only [fa_lit, nI_add]) ?_
  refine va_sld hx hb hX hbl hbA hS (vp_in_nI (by omega) (by omega)) dL_law_593 ?_
  obtain ⟨P9, hc1, hn1⟩ : stepJ l G ad aK aV yX3_visitor wsX3_visitor yX4_visitor wsX4_visitor [.int (xs (nI (i + 1)).toNatClampNeg), .int (xs (nI (i + 2)).toNatClampNeg)] ((C, it, F, FS, RS, RF, MD, MF, cs), (B, wy)) := stepJ_of _ (st_visitor hR (xs (nI (i + 1)).toNatClampNeg) (xs (nI (i + 2)).toNatClampNeg))
  refine va_calli (va_runV (As := [.int (xs (nI (i + 1)).toNatClampNeg), .int (xs (nI (i + 2)).toNatClampNeg)]) (rest := []) ⟨hx, hb, hml, hown, hts⟩ hc1 (cwV 2 hts gL_law_X3_visitor rfl rfl rfl (by decide +kernel) ⟨(Nat.le_of_ble_eq_true rfl), (Nat.le_of_ble_eq_true rfl)⟩) (rws_preV hK hP hD hSt hS (jw_free hD) (va_recv hK.1 hP (ci := 3) (q0 := 0) rfl rfl)) rfl rfl hl.1 rfl (lv_room (Nat.le_of_ble_eq_true rfl)) dL_law_594 ⟨hce, hsl⟩) hS (fun q _ h => jw_free hD q h) (jw_free hD) (fun r1 w1 t9 H1 locs ht hvm hr1 hB hz1 hk1 hS => ?_)
  replace hB : va_P G.1 lzC (JW G ad w1) t9.heap := hB
  rw [ht] at hB
  have hD1 := jw_D w1 hD
  obtain ⟨Q9, hc2, hn2⟩ := hn1 r1 w1 hr1
  clear ht hvm hz1 hk1 hP hD hc1 hn1
  refine lv_aload_n hx hb dL_law_597 rfl (lv_at hl 1 rfl) ?_
  refine lv_aload_n hx hb dL_law_598 rfl (lv_at hl 3 rfl) ?_
  refine lv_iload_n hx hb dL_law_599 rfl (lv_at hl 0 rfl) ?_
  refine lv_iconst (v := 1) hx hb dL_law_600 (by decide) ?_
  refine lv_iadd hx hb dL_law_601 ?_
  refine lz_top (y := nI (i + 1)) (by simp only [fa_lit, nI_add]) ?_
  refine va_sld hx hb hX hbl hbA hS (vp_in_nI (by omega) (by omega)) dL_law_602 ?_
  refine lv_aload_n hx hb dL_law_603 rfl (lv_at hl 3 rfl) ?_
  refine lv_iload_n hx hb dL_law_604 rfl (lv_at hl 0 rfl) ?_
  refine lv_iconst (v := 2) hx hb dL_law_605 (by decide) ?_
  refine lv_iadd hx hb dL_law_606 ?_
  refine lz_top (y := nI (i + 2)) (by simp only [fa_lit, nI_add]) ?_
  refine va_sld hx hb hX hbl hbA hS (vp_in_nI (by omega) (by omega)) dL_law_607 ?_
  refine va_calli (va_runV (As := [.int (xs (nI (i + 1)).toNatClampNeg), .int (xs (nI (i + 2)).toNatClampNeg)]) (rest := [.int r1]) ⟨hx, hb, hml, hown, hts⟩ hc2 (cwV 2 hts gL_law_X4_visitor rfl rfl rfl (by decide +kernel) ⟨(Nat.le_of_ble_eq_true rfl), (Nat.le_of_ble_eq_true rfl)⟩) (rws_preV hK hB hD1 hSt hS (jw_free hD1) (va_recv hK.1 (P_split hB).2 (ci := 4) (q0 := 0) rfl rfl)) rfl rfl hl.1 rfl (lv_room (Nat.le_of_ble_eq_true rfl)) dL_law_608 ⟨hce, hsl⟩) hS (fun q _ h => jw_free hD1 q h) (jw_free hD1) (fun r2 w2 t9 H2 locs ht hvm hr2 hB2 hz1 hk1 hS => ?_)
  replace hB2 : va_P G.1 lzC (JW G ad w2) t9.heap := hB2
  rw [ht] at hB2
  have hD2 := jw_D w2 hD1
  obtain ⟨hrr, hR2⟩ := hn2 r2 w2 hr2
  clear ht hvm hz1 hk1 hB hD1 hc2 hn2
  refine lv_icmp_eq (tgt := 1382) hx hb dL_law_611 (by decide) (fun c_1 => ?_) (fun c_1 => absurd hrr c_1)
  exact kk w2 H2 locs hR2 hB2 hD2 hS

set_option maxHeartbeats 1000000 in
set_option maxRecDepth 100000 in
theorem lc_sees (hx : p.tables.exec = Jvm.exec) (hb : c.code = cL_law) (hml : c.maxLocals = 4) (hown : s.vm.findClass RL = some m.cls) (hts : ∀ w ∈ wsL_law, w.before #[Value.ref b] s = true) (hX : va_X b L xs s s.heap) (hbl : b < s.heap.size) (hL : L ≤ 384) (hce : cells ≤ 600000) (hsl : slots ≤ 7302249) (hK : lzK G s) (hSt : lzStr aK aV (fun q => s.heap.size ≤ q) s s.heap) {w : lzSx × lzSm} (hR : RelS w) {i : Nat} (hi : i + 6 ≤ L) {H : Heap} {locs : List Loc} {ls : Array Slot} (hl : lv_has ls 4 [(3, .int (nI i)), (2, .ref (ad 11 0 0)), (1, .ref (ad 0 0 0)), (0, .ref b)]) (hP : va_P G.1 lzC (JW G ad w) H) (hD : va_D (fun q => s.heap.size ≤ q) (JW G ad w)) (hS : va_S (fun q => s.heap.size ≤ q) s.heap H locs)
    (kk : ∀ (w2 : lzSx × lzSm) (H2 : Heap) (locs2 : List Loc), RelS w2 → va_P G.1 lzC (JW G ad w2) H2 → va_D (fun q => s.heap.size ≤ q) (JW G ad w2) → va_S (fun q => s.heap.size ≤ q) s.heap H2 locs2 → W p l e room_1 s m #[Value.ref b] below meth c H2 locs2 cells slots Q (F0 m 1382 ls [])) : W p l e room_1 s m #[Value.ref b] below meth c H locs cells slots Q (F0 m 616 ls []) := by
  have hbA : ¬ (fun q => s.heap.size ≤ q) b := Nat.not_le.mpr hbl
  obtain ⟨⟨C, it, F, FS, RS, RF, MD, MF, cs⟩, B, wy⟩ := w
  refine lv_aload_n hx hb dL_law_616 rfl (lv_at hl 2 rfl) ?_
  refine lv_aload_n hx hb dL_law_617 rfl (lv_at hl 3 rfl) ?_
  refine lv_iload_n hx hb dL_law_618 rfl (lv_at hl 0 rfl) ?_
  refine lv_iconst (v := 1) hx hb dL_law_619 (by decide) ?_
  refine lv_iadd hx hb dL_law_620 ?_
  refine lz_top (y := nI (i + 1)) (by simp only [fa_lit, nI_add]) ?_
  refine va_sld hx hb hX hbl hbA hS (vp_in_nI (by omega) (by omega)) dL_law_621 ?_
  refine lv_aload_n hx hb dL_law_622 rfl (lv_at hl 3 rfl) ?_
  refine lv_iload_n hx hb dL_law_623 rfl (lv_at hl 0 rfl) ?_
  refine lv_iconst (v := 2) hx hb dL_law_624 (by decide) ?_
  refine lv_iadd hx hb dL_law_625 ?_
  refine lz_top (y := nI (i + 2)) (by simp only [fa_lit, nI_add]) ?_
  refine va_sld hx hb hX hbl hbA hS (vp_in_nI (by omega) (by omega)) dL_law_626 ?_
  obtain ⟨P9, hc1, hn1⟩ : stepJ l G ad aK aV yX3_sees wsX3_sees yX4_sees wsX4_sees [.int (xs (nI (i + 1)).toNatClampNeg), .int (xs (nI (i + 2)).toNatClampNeg)] ((C, it, F, FS, RS, RF, MD, MF, cs), (B, wy)) := stepJ_of _ (st_sees hR (xs (nI (i + 1)).toNatClampNeg) (xs (nI (i + 2)).toNatClampNeg))
  refine va_calli (va_runV (As := [.int (xs (nI (i + 1)).toNatClampNeg), .int (xs (nI (i + 2)).toNatClampNeg)]) (rest := []) ⟨hx, hb, hml, hown, hts⟩ hc1 (cwV 2 hts gL_law_X3_sees rfl rfl rfl (by decide +kernel) ⟨(Nat.le_of_ble_eq_true rfl), (Nat.le_of_ble_eq_true rfl)⟩) (rws_preV hK hP hD hSt hS (jw_free hD) (va_recv hK.1 hP (ci := 3) (q0 := 0) rfl rfl)) rfl rfl hl.1 rfl (lv_room (Nat.le_of_ble_eq_true rfl)) dL_law_627 ⟨hce, hsl⟩) hS (fun q _ h => jw_free hD q h) (jw_free hD) (fun r1 w1 t9 H1 locs ht hvm hr1 hB hz1 hk1 hS => ?_)
  replace hB : va_P G.1 lzC (JW G ad w1) t9.heap := hB
  rw [ht] at hB
  have hD1 := jw_D w1 hD
  obtain ⟨Q9, hc2, hn2⟩ := hn1 r1 w1 hr1
  clear ht hvm hz1 hk1 hP hD hc1 hn1
  refine lv_aload_n hx hb dL_law_630 rfl (lv_at hl 1 rfl) ?_
  refine lv_aload_n hx hb dL_law_631 rfl (lv_at hl 3 rfl) ?_
  refine lv_iload_n hx hb dL_law_632 rfl (lv_at hl 0 rfl) ?_
  refine lv_iconst (v := 1) hx hb dL_law_633 (by decide) ?_
  refine lv_iadd hx hb dL_law_634 ?_
  refine lz_top (y := nI (i + 1)) (by simp only [fa_lit, nI_add]) ?_
  refine va_sld hx hb hX hbl hbA hS (vp_in_nI (by omega) (by omega)) dL_law_635 ?_
  refine lv_aload_n hx hb dL_law_636 rfl (lv_at hl 3 rfl) ?_
  refine lv_iload_n hx hb dL_law_637 rfl (lv_at hl 0 rfl) ?_
  refine lv_iconst (v := 2) hx hb dL_law_638 (by decide) ?_
  refine lv_iadd hx hb dL_law_639 ?_
  refine lz_top (y := nI (i + 2)) (by simp only [fa_lit, nI_add]) ?_
  refine va_sld hx hb hX hbl hbA hS (vp_in_nI (by omega) (by omega)) dL_law_640 ?_
  refine va_calli (va_runV (As := [.int (xs (nI (i + 1)).toNatClampNeg), .int (xs (nI (i + 2)).toNatClampNeg)]) (rest := [.int r1]) ⟨hx, hb, hml, hown, hts⟩ hc2 (cwV 2 hts gL_law_X4_sees rfl rfl rfl (by decide +kernel) ⟨(Nat.le_of_ble_eq_true rfl), (Nat.le_of_ble_eq_true rfl)⟩) (rws_preV hK hB hD1 hSt hS (jw_free hD1) (va_recv hK.1 (P_split hB).2 (ci := 4) (q0 := 0) rfl rfl)) rfl rfl hl.1 rfl (lv_room (Nat.le_of_ble_eq_true rfl)) dL_law_641 ⟨hce, hsl⟩) hS (fun q _ h => jw_free hD1 q h) (jw_free hD1) (fun r2 w2 t9 H2 locs ht hvm hr2 hB2 hz1 hk1 hS => ?_)
  replace hB2 : va_P G.1 lzC (JW G ad w2) t9.heap := hB2
  rw [ht] at hB2
  have hD2 := jw_D w2 hD1
  obtain ⟨hrr, hR2⟩ := hn2 r2 w2 hr2
  clear ht hvm hz1 hk1 hB hD1 hc2 hn2
  refine lv_icmp_eq (tgt := 1382) hx hb dL_law_644 (by decide) (fun c_1 => ?_) (fun c_1 => absurd hrr c_1)
  exact kk w2 H2 locs hR2 hB2 hD2 hS

set_option maxHeartbeats 1000000 in
set_option maxRecDepth 100000 in
theorem lc_clicks (hx : p.tables.exec = Jvm.exec) (hb : c.code = cL_law) (hml : c.maxLocals = 4) (hown : s.vm.findClass RL = some m.cls) (hts : ∀ w ∈ wsL_law, w.before #[Value.ref b] s = true) (hX : va_X b L xs s s.heap) (hbl : b < s.heap.size) (hL : L ≤ 384) (hce : cells ≤ 600000) (hsl : slots ≤ 7302249) (hK : lzK G s) (hSt : lzStr aK aV (fun q => s.heap.size ≤ q) s s.heap) {w : lzSx × lzSm} (hR : RelS w) {i : Nat} (hi : i + 6 ≤ L) {H : Heap} {locs : List Loc} {ls : Array Slot} (hl : lv_has ls 4 [(3, .int (nI i)), (2, .ref (ad 11 0 0)), (1, .ref (ad 0 0 0)), (0, .ref b)]) (hP : va_P G.1 lzC (JW G ad w) H) (hD : va_D (fun q => s.heap.size ≤ q) (JW G ad w)) (hS : va_S (fun q => s.heap.size ≤ q) s.heap H locs)
    (kk : ∀ (w2 : lzSx × lzSm) (H2 : Heap) (locs2 : List Loc), RelS w2 → va_P G.1 lzC (JW G ad w2) H2 → va_D (fun q => s.heap.size ≤ q) (JW G ad w2) → va_S (fun q => s.heap.size ≤ q) s.heap H2 locs2 → W p l e room_1 s m #[Value.ref b] below meth c H2 locs2 cells slots Q (F0 m 1382 ls [])) : W p l e room_1 s m #[Value.ref b] below meth c H locs cells slots Q (F0 m 649 ls []) := by
  have hbA : ¬ (fun q => s.heap.size ≤ q) b := Nat.not_le.mpr hbl
  obtain ⟨⟨C, it, F, FS, RS, RF, MD, MF, cs⟩, B, wy⟩ := w
  refine lv_aload_n hx hb dL_law_649 rfl (lv_at hl 2 rfl) ?_
  refine lv_aload_n hx hb dL_law_650 rfl (lv_at hl 3 rfl) ?_
  refine lv_iload_n hx hb dL_law_651 rfl (lv_at hl 0 rfl) ?_
  refine lv_iconst (v := 1) hx hb dL_law_652 (by decide) ?_
  refine lv_iadd hx hb dL_law_653 ?_
  refine lz_top (y := nI (i + 1)) (by simp only [fa_lit, nI_add]) ?_
  refine va_sld hx hb hX hbl hbA hS (vp_in_nI (by omega) (by omega)) dL_law_654 ?_
  obtain ⟨P9, hc1, hn1⟩ : stepJ l G ad aK aV yX3_clicks wsX3_clicks yX4_clicks wsX4_clicks [.int (xs (nI (i + 1)).toNatClampNeg)] ((C, it, F, FS, RS, RF, MD, MF, cs), (B, wy)) := stepJ_of _ (st_clicks hR (xs (nI (i + 1)).toNatClampNeg))
  refine va_calli (va_runV (As := [.int (xs (nI (i + 1)).toNatClampNeg)]) (rest := []) ⟨hx, hb, hml, hown, hts⟩ hc1 (cwV 1 hts gL_law_X3_clicks rfl rfl rfl (by decide +kernel) ⟨(Nat.le_of_ble_eq_true rfl), (Nat.le_of_ble_eq_true rfl)⟩) (rws_preV hK hP hD hSt hS (jw_free hD) (va_recv hK.1 hP (ci := 3) (q0 := 0) rfl rfl)) rfl rfl hl.1 rfl (lv_room (Nat.le_of_ble_eq_true rfl)) dL_law_655 ⟨hce, hsl⟩) hS (fun q _ h => jw_free hD q h) (jw_free hD) (fun r1 w1 t9 H1 locs ht hvm hr1 hB hz1 hk1 hS => ?_)
  replace hB : va_P G.1 lzC (JW G ad w1) t9.heap := hB
  rw [ht] at hB
  have hD1 := jw_D w1 hD
  obtain ⟨Q9, hc2, hn2⟩ := hn1 r1 w1 hr1
  clear ht hvm hz1 hk1 hP hD hc1 hn1
  refine lv_aload_n hx hb dL_law_658 rfl (lv_at hl 1 rfl) ?_
  refine lv_aload_n hx hb dL_law_659 rfl (lv_at hl 3 rfl) ?_
  refine lv_iload_n hx hb dL_law_660 rfl (lv_at hl 0 rfl) ?_
  refine lv_iconst (v := 1) hx hb dL_law_661 (by decide) ?_
  refine lv_iadd hx hb dL_law_662 ?_
  refine lz_top (y := nI (i + 1)) (by simp only [fa_lit, nI_add]) ?_
  refine va_sld hx hb hX hbl hbA hS (vp_in_nI (by omega) (by omega)) dL_law_663 ?_
  refine va_calli (va_runV (As := [.int (xs (nI (i + 1)).toNatClampNeg)]) (rest := [.int r1]) ⟨hx, hb, hml, hown, hts⟩ hc2 (cwV 1 hts gL_law_X4_clicks rfl rfl rfl (by decide +kernel) ⟨(Nat.le_of_ble_eq_true rfl), (Nat.le_of_ble_eq_true rfl)⟩) (rws_preV hK hB hD1 hSt hS (jw_free hD1) (va_recv hK.1 (P_split hB).2 (ci := 4) (q0 := 0) rfl rfl)) rfl rfl hl.1 rfl (lv_room (Nat.le_of_ble_eq_true rfl)) dL_law_664 ⟨hce, hsl⟩) hS (fun q _ h => jw_free hD1 q h) (jw_free hD1) (fun r2 w2 t9 H2 locs ht hvm hr2 hB2 hz1 hk1 hS => ?_)
  replace hB2 : va_P G.1 lzC (JW G ad w2) t9.heap := hB2
  rw [ht] at hB2
  have hD2 := jw_D w2 hD1
  obtain ⟨hrr, hR2⟩ := hn2 r2 w2 hr2
  clear ht hvm hz1 hk1 hB hD1 hc2 hn2
  refine lv_icmp_eq (tgt := 1382) hx hb dL_law_667 (by decide) (fun c_1 => ?_) (fun c_1 => absurd hrr c_1)
  exact kk w2 H2 locs hR2 hB2 hD2 hS

set_option maxHeartbeats 1000000 in
set_option maxRecDepth 100000 in
theorem lc_wrong (hx : p.tables.exec = Jvm.exec) (hb : c.code = cL_law) (hml : c.maxLocals = 4) (hown : s.vm.findClass RL = some m.cls) (hts : ∀ w ∈ wsL_law, w.before #[Value.ref b] s = true) (hX : va_X b L xs s s.heap) (hbl : b < s.heap.size) (hL : L ≤ 384) (hce : cells ≤ 600000) (hsl : slots ≤ 7302249) (hK : lzK G s) (hSt : lzStr aK aV (fun q => s.heap.size ≤ q) s s.heap) {w : lzSx × lzSm} (hR : RelS w) {i : Nat} (hi : i + 6 ≤ L) {H : Heap} {locs : List Loc} {ls : Array Slot} (hl : lv_has ls 4 [(3, .int (nI i)), (2, .ref (ad 11 0 0)), (1, .ref (ad 0 0 0)), (0, .ref b)]) (hP : va_P G.1 lzC (JW G ad w) H) (hD : va_D (fun q => s.heap.size ≤ q) (JW G ad w)) (hS : va_S (fun q => s.heap.size ≤ q) s.heap H locs)
    (kk : ∀ (w2 : lzSx × lzSm) (H2 : Heap) (locs2 : List Loc), RelS w2 → va_P G.1 lzC (JW G ad w2) H2 → va_D (fun q => s.heap.size ≤ q) (JW G ad w2) → va_S (fun q => s.heap.size ≤ q) s.heap H2 locs2 → W p l e room_1 s m #[Value.ref b] below meth c H2 locs2 cells slots Q (F0 m 1382 ls [])) : W p l e room_1 s m #[Value.ref b] below meth c H locs cells slots Q (F0 m 672 ls []) := by
  have hbA : ¬ (fun q => s.heap.size ≤ q) b := Nat.not_le.mpr hbl
  obtain ⟨⟨C, it, F, FS, RS, RF, MD, MF, cs⟩, B, wy⟩ := w
  refine lv_aload_n hx hb dL_law_672 rfl (lv_at hl 2 rfl) ?_
  refine lv_aload_n hx hb dL_law_673 rfl (lv_at hl 3 rfl) ?_
  refine lv_iload_n hx hb dL_law_674 rfl (lv_at hl 0 rfl) ?_
  refine lv_iconst (v := 1) hx hb dL_law_675 (by decide) ?_
  refine lv_iadd hx hb dL_law_676 ?_
  refine lz_top (y := nI (i + 1)) (by simp only [fa_lit, nI_add]) ?_
  refine va_sld hx hb hX hbl hbA hS (vp_in_nI (by omega) (by omega)) dL_law_677 ?_
  refine lv_aload_n hx hb dL_law_678 rfl (lv_at hl 3 rfl) ?_
  refine lv_iload_n hx hb dL_law_679 rfl (lv_at hl 0 rfl) ?_
  refine lv_iconst (v := 2) hx hb dL_law_680 (by decide) ?_
  refine lv_iadd hx hb dL_law_681 ?_
  refine lz_top (y := nI (i + 2)) (by simp only [fa_lit, nI_add]) ?_
  refine va_sld hx hb hX hbl hbA hS (vp_in_nI (by omega) (by omega)) dL_law_682 ?_
  obtain ⟨P9, hc1, hn1⟩ : stepJ l G ad aK aV yX3_wrong wsX3_wrong yX4_wrong wsX4_wrong [.int (xs (nI (i + 1)).toNatClampNeg), .int (xs (nI (i + 2)).toNatClampNeg)] ((C, it, F, FS, RS, RF, MD, MF, cs), (B, wy)) := stepJ_of _ (st_wrong hR (xs (nI (i + 1)).toNatClampNeg) (xs (nI (i + 2)).toNatClampNeg))
  refine va_calli (va_runV (As := [.int (xs (nI (i + 1)).toNatClampNeg), .int (xs (nI (i + 2)).toNatClampNeg)]) (rest := []) ⟨hx, hb, hml, hown, hts⟩ hc1 (cwV 2 hts gL_law_X3_wrong rfl rfl rfl (by decide +kernel) ⟨(Nat.le_of_ble_eq_true rfl), (Nat.le_of_ble_eq_true rfl)⟩) (rws_preV hK hP hD hSt hS (jw_free hD) (va_recv hK.1 hP (ci := 3) (q0 := 0) rfl rfl)) rfl rfl hl.1 rfl (lv_room (Nat.le_of_ble_eq_true rfl)) dL_law_683 ⟨hce, hsl⟩) hS (fun q _ h => jw_free hD q h) (jw_free hD) (fun r1 w1 t9 H1 locs ht hvm hr1 hB hz1 hk1 hS => ?_)
  replace hB : va_P G.1 lzC (JW G ad w1) t9.heap := hB
  rw [ht] at hB
  have hD1 := jw_D w1 hD
  obtain ⟨Q9, hc2, hn2⟩ := hn1 r1 w1 hr1
  clear ht hvm hz1 hk1 hP hD hc1 hn1
  refine lv_aload_n hx hb dL_law_686 rfl (lv_at hl 1 rfl) ?_
  refine lv_aload_n hx hb dL_law_687 rfl (lv_at hl 3 rfl) ?_
  refine lv_iload_n hx hb dL_law_688 rfl (lv_at hl 0 rfl) ?_
  refine lv_iconst (v := 1) hx hb dL_law_689 (by decide) ?_
  refine lv_iadd hx hb dL_law_690 ?_
  refine lz_top (y := nI (i + 1)) (by simp only [fa_lit, nI_add]) ?_
  refine va_sld hx hb hX hbl hbA hS (vp_in_nI (by omega) (by omega)) dL_law_691 ?_
  refine lv_aload_n hx hb dL_law_692 rfl (lv_at hl 3 rfl) ?_
  refine lv_iload_n hx hb dL_law_693 rfl (lv_at hl 0 rfl) ?_
  refine lv_iconst (v := 2) hx hb dL_law_694 (by decide) ?_
  refine lv_iadd hx hb dL_law_695 ?_
  refine lz_top (y := nI (i + 2)) (by simp only [fa_lit, nI_add]) ?_
  refine va_sld hx hb hX hbl hbA hS (vp_in_nI (by omega) (by omega)) dL_law_696 ?_
  refine va_calli (va_runV (As := [.int (xs (nI (i + 1)).toNatClampNeg), .int (xs (nI (i + 2)).toNatClampNeg)]) (rest := [.int r1]) ⟨hx, hb, hml, hown, hts⟩ hc2 (cwV 2 hts gL_law_X4_wrong rfl rfl rfl (by decide +kernel) ⟨(Nat.le_of_ble_eq_true rfl), (Nat.le_of_ble_eq_true rfl)⟩) (rws_preV hK hB hD1 hSt hS (jw_free hD1) (va_recv hK.1 (P_split hB).2 (ci := 4) (q0 := 0) rfl rfl)) rfl rfl hl.1 rfl (lv_room (Nat.le_of_ble_eq_true rfl)) dL_law_697 ⟨hce, hsl⟩) hS (fun q _ h => jw_free hD1 q h) (jw_free hD1) (fun r2 w2 t9 H2 locs ht hvm hr2 hB2 hz1 hk1 hS => ?_)
  replace hB2 : va_P G.1 lzC (JW G ad w2) t9.heap := hB2
  rw [ht] at hB2
  have hD2 := jw_D w2 hD1
  obtain ⟨hrr, hR2⟩ := hn2 r2 w2 hr2
  clear ht hvm hz1 hk1 hB hD1 hc2 hn2
  refine lv_icmp_eq (tgt := 1382) hx hb dL_law_700 (by decide) (fun c_1 => ?_) (fun c_1 => absurd hrr c_1)
  exact kk w2 H2 locs hR2 hB2 hD2 hS

set_option maxHeartbeats 1000000 in
set_option maxRecDepth 100000 in
theorem lc_guests (hx : p.tables.exec = Jvm.exec) (hb : c.code = cL_law) (hml : c.maxLocals = 4) (hown : s.vm.findClass RL = some m.cls) (hts : ∀ w ∈ wsL_law, w.before #[Value.ref b] s = true) (hX : va_X b L xs s s.heap) (hbl : b < s.heap.size) (hL : L ≤ 384) (hce : cells ≤ 600000) (hsl : slots ≤ 7302249) (hK : lzK G s) (hSt : lzStr aK aV (fun q => s.heap.size ≤ q) s s.heap) {w : lzSx × lzSm} (hR : RelS w) {i : Nat} (hi : i + 6 ≤ L) {H : Heap} {locs : List Loc} {ls : Array Slot} (hl : lv_has ls 4 [(3, .int (nI i)), (2, .ref (ad 11 0 0)), (1, .ref (ad 0 0 0)), (0, .ref b)]) (hP : va_P G.1 lzC (JW G ad w) H) (hD : va_D (fun q => s.heap.size ≤ q) (JW G ad w)) (hS : va_S (fun q => s.heap.size ≤ q) s.heap H locs)
    (kk : ∀ (w2 : lzSx × lzSm) (H2 : Heap) (locs2 : List Loc), RelS w2 → va_P G.1 lzC (JW G ad w2) H2 → va_D (fun q => s.heap.size ≤ q) (JW G ad w2) → va_S (fun q => s.heap.size ≤ q) s.heap H2 locs2 → W p l e room_1 s m #[Value.ref b] below meth c H2 locs2 cells slots Q (F0 m 1382 ls [])) : W p l e room_1 s m #[Value.ref b] below meth c H locs cells slots Q (F0 m 705 ls []) := by
  have hbA : ¬ (fun q => s.heap.size ≤ q) b := Nat.not_le.mpr hbl
  obtain ⟨⟨C, it, F, FS, RS, RF, MD, MF, cs⟩, B, wy⟩ := w
  refine lv_aload_n hx hb dL_law_705 rfl (lv_at hl 2 rfl) ?_
  refine lv_aload_n hx hb dL_law_706 rfl (lv_at hl 3 rfl) ?_
  refine lv_iload_n hx hb dL_law_707 rfl (lv_at hl 0 rfl) ?_
  refine lv_iconst (v := 1) hx hb dL_law_708 (by decide) ?_
  refine lv_iadd hx hb dL_law_709 ?_
  refine lz_top (y := nI (i + 1)) (by simp only [fa_lit, nI_add]) ?_
  refine va_sld hx hb hX hbl hbA hS (vp_in_nI (by omega) (by omega)) dL_law_710 ?_
  obtain ⟨P9, hc1, hn1⟩ : stepJ l G ad aK aV yX3_guests wsX3_guests yX4_guests wsX4_guests [.int (xs (nI (i + 1)).toNatClampNeg)] ((C, it, F, FS, RS, RF, MD, MF, cs), (B, wy)) := stepJ_of _ (st_guests hR (xs (nI (i + 1)).toNatClampNeg))
  refine va_calli (va_runV (As := [.int (xs (nI (i + 1)).toNatClampNeg)]) (rest := []) ⟨hx, hb, hml, hown, hts⟩ hc1 (cwV 1 hts gL_law_X3_guests rfl rfl rfl (by decide +kernel) ⟨(Nat.le_of_ble_eq_true rfl), (Nat.le_of_ble_eq_true rfl)⟩) (rws_preV hK hP hD hSt hS (jw_free hD) (va_recv hK.1 hP (ci := 3) (q0 := 0) rfl rfl)) rfl rfl hl.1 rfl (lv_room (Nat.le_of_ble_eq_true rfl)) dL_law_711 ⟨hce, hsl⟩) hS (fun q _ h => jw_free hD q h) (jw_free hD) (fun r1 w1 t9 H1 locs ht hvm hr1 hB hz1 hk1 hS => ?_)
  replace hB : va_P G.1 lzC (JW G ad w1) t9.heap := hB
  rw [ht] at hB
  have hD1 := jw_D w1 hD
  obtain ⟨Q9, hc2, hn2⟩ := hn1 r1 w1 hr1
  clear ht hvm hz1 hk1 hP hD hc1 hn1
  refine lv_aload_n hx hb dL_law_714 rfl (lv_at hl 1 rfl) ?_
  refine lv_aload_n hx hb dL_law_715 rfl (lv_at hl 3 rfl) ?_
  refine lv_iload_n hx hb dL_law_716 rfl (lv_at hl 0 rfl) ?_
  refine lv_iconst (v := 1) hx hb dL_law_717 (by decide) ?_
  refine lv_iadd hx hb dL_law_718 ?_
  refine lz_top (y := nI (i + 1)) (by simp only [fa_lit, nI_add]) ?_
  refine va_sld hx hb hX hbl hbA hS (vp_in_nI (by omega) (by omega)) dL_law_719 ?_
  refine va_calli (va_runV (As := [.int (xs (nI (i + 1)).toNatClampNeg)]) (rest := [.int r1]) ⟨hx, hb, hml, hown, hts⟩ hc2 (cwV 1 hts gL_law_X4_guests rfl rfl rfl (by decide +kernel) ⟨(Nat.le_of_ble_eq_true rfl), (Nat.le_of_ble_eq_true rfl)⟩) (rws_preV hK hB hD1 hSt hS (jw_free hD1) (va_recv hK.1 (P_split hB).2 (ci := 4) (q0 := 0) rfl rfl)) rfl rfl hl.1 rfl (lv_room (Nat.le_of_ble_eq_true rfl)) dL_law_720 ⟨hce, hsl⟩) hS (fun q _ h => jw_free hD1 q h) (jw_free hD1) (fun r2 w2 t9 H2 locs ht hvm hr2 hB2 hz1 hk1 hS => ?_)
  replace hB2 : va_P G.1 lzC (JW G ad w2) t9.heap := hB2
  rw [ht] at hB2
  have hD2 := jw_D w2 hD1
  obtain ⟨hrr, hR2⟩ := hn2 r2 w2 hr2
  clear ht hvm hz1 hk1 hB hD1 hc2 hn2
  refine lv_icmp_eq (tgt := 1382) hx hb dL_law_723 (by decide) (fun c_1 => ?_) (fun c_1 => absurd hrr c_1)
  exact kk w2 H2 locs hR2 hB2 hD2 hS

set_option maxHeartbeats 1000000 in
set_option maxRecDepth 100000 in
theorem lc_fewest (hx : p.tables.exec = Jvm.exec) (hb : c.code = cL_law) (hml : c.maxLocals = 4) (hown : s.vm.findClass RL = some m.cls) (hts : ∀ w ∈ wsL_law, w.before #[Value.ref b] s = true) (hX : va_X b L xs s s.heap) (hbl : b < s.heap.size) (hL : L ≤ 384) (hce : cells ≤ 600000) (hsl : slots ≤ 7302249) (hK : lzK G s) (hSt : lzStr aK aV (fun q => s.heap.size ≤ q) s s.heap) {w : lzSx × lzSm} (hR : RelS w) {i : Nat} (hi : i + 6 ≤ L) {H : Heap} {locs : List Loc} {ls : Array Slot} (hl : lv_has ls 4 [(3, .int (nI i)), (2, .ref (ad 11 0 0)), (1, .ref (ad 0 0 0)), (0, .ref b)]) (hP : va_P G.1 lzC (JW G ad w) H) (hD : va_D (fun q => s.heap.size ≤ q) (JW G ad w)) (hS : va_S (fun q => s.heap.size ≤ q) s.heap H locs)
    (kk : ∀ (w2 : lzSx × lzSm) (H2 : Heap) (locs2 : List Loc), RelS w2 → va_P G.1 lzC (JW G ad w2) H2 → va_D (fun q => s.heap.size ≤ q) (JW G ad w2) → va_S (fun q => s.heap.size ≤ q) s.heap H2 locs2 → W p l e room_1 s m #[Value.ref b] below meth c H2 locs2 cells slots Q (F0 m 1382 ls [])) : W p l e room_1 s m #[Value.ref b] below meth c H locs cells slots Q (F0 m 728 ls []) := by
  have hbA : ¬ (fun q => s.heap.size ≤ q) b := Nat.not_le.mpr hbl
  obtain ⟨⟨C, it, F, FS, RS, RF, MD, MF, cs⟩, B, wy⟩ := w
  refine lv_aload_n hx hb dL_law_728 rfl (lv_at hl 2 rfl) ?_
  refine lv_aload_n hx hb dL_law_729 rfl (lv_at hl 3 rfl) ?_
  refine lv_iload_n hx hb dL_law_730 rfl (lv_at hl 0 rfl) ?_
  refine lv_iconst (v := 1) hx hb dL_law_731 (by decide) ?_
  refine lv_iadd hx hb dL_law_732 ?_
  refine lz_top (y := nI (i + 1)) (by simp only [fa_lit, nI_add]) ?_
  refine va_sld hx hb hX hbl hbA hS (vp_in_nI (by omega) (by omega)) dL_law_733 ?_
  refine lv_aload_n hx hb dL_law_734 rfl (lv_at hl 3 rfl) ?_
  refine lv_iload_n hx hb dL_law_735 rfl (lv_at hl 0 rfl) ?_
  refine lv_iconst (v := 2) hx hb dL_law_736 (by decide) ?_
  refine lv_iadd hx hb dL_law_737 ?_
  refine lz_top (y := nI (i + 2)) (by simp only [fa_lit, nI_add]) ?_
  refine va_sld hx hb hX hbl hbA hS (vp_in_nI (by omega) (by omega)) dL_law_738 ?_
  obtain ⟨P9, hc1, hn1⟩ : stepJ l G ad aK aV yX3_fewest wsX3_fewest yX4_fewest wsX4_fewest [.int (xs (nI (i + 1)).toNatClampNeg), .int (xs (nI (i + 2)).toNatClampNeg)] ((C, it, F, FS, RS, RF, MD, MF, cs), (B, wy)) := stepJ_of _ (st_fewest hR (xs (nI (i + 1)).toNatClampNeg) (xs (nI (i + 2)).toNatClampNeg))
  refine va_calli (va_runV (As := [.int (xs (nI (i + 1)).toNatClampNeg), .int (xs (nI (i + 2)).toNatClampNeg)]) (rest := []) ⟨hx, hb, hml, hown, hts⟩ hc1 (cwV 2 hts gL_law_X3_fewest rfl rfl rfl (by decide +kernel) ⟨(Nat.le_of_ble_eq_true rfl), (Nat.le_of_ble_eq_true rfl)⟩) (rws_preV hK hP hD hSt hS (jw_free hD) (va_recv hK.1 hP (ci := 3) (q0 := 0) rfl rfl)) rfl rfl hl.1 rfl (lv_room (Nat.le_of_ble_eq_true rfl)) dL_law_739 ⟨hce, hsl⟩) hS (fun q _ h => jw_free hD q h) (jw_free hD) (fun r1 w1 t9 H1 locs ht hvm hr1 hB hz1 hk1 hS => ?_)
  replace hB : va_P G.1 lzC (JW G ad w1) t9.heap := hB
  rw [ht] at hB
  have hD1 := jw_D w1 hD
  obtain ⟨Q9, hc2, hn2⟩ := hn1 r1 w1 hr1
  clear ht hvm hz1 hk1 hP hD hc1 hn1
  refine lv_aload_n hx hb dL_law_742 rfl (lv_at hl 1 rfl) ?_
  refine lv_aload_n hx hb dL_law_743 rfl (lv_at hl 3 rfl) ?_
  refine lv_iload_n hx hb dL_law_744 rfl (lv_at hl 0 rfl) ?_
  refine lv_iconst (v := 1) hx hb dL_law_745 (by decide) ?_
  refine lv_iadd hx hb dL_law_746 ?_
  refine lz_top (y := nI (i + 1)) (by simp only [fa_lit, nI_add]) ?_
  refine va_sld hx hb hX hbl hbA hS (vp_in_nI (by omega) (by omega)) dL_law_747 ?_
  refine lv_aload_n hx hb dL_law_748 rfl (lv_at hl 3 rfl) ?_
  refine lv_iload_n hx hb dL_law_749 rfl (lv_at hl 0 rfl) ?_
  refine lv_iconst (v := 2) hx hb dL_law_750 (by decide) ?_
  refine lv_iadd hx hb dL_law_751 ?_
  refine lz_top (y := nI (i + 2)) (by simp only [fa_lit, nI_add]) ?_
  refine va_sld hx hb hX hbl hbA hS (vp_in_nI (by omega) (by omega)) dL_law_752 ?_
  refine va_calli (va_runV (As := [.int (xs (nI (i + 1)).toNatClampNeg), .int (xs (nI (i + 2)).toNatClampNeg)]) (rest := [.int r1]) ⟨hx, hb, hml, hown, hts⟩ hc2 (cwV 2 hts gL_law_X4_fewest rfl rfl rfl (by decide +kernel) ⟨(Nat.le_of_ble_eq_true rfl), (Nat.le_of_ble_eq_true rfl)⟩) (rws_preV hK hB hD1 hSt hS (jw_free hD1) (va_recv hK.1 (P_split hB).2 (ci := 4) (q0 := 0) rfl rfl)) rfl rfl hl.1 rfl (lv_room (Nat.le_of_ble_eq_true rfl)) dL_law_753 ⟨hce, hsl⟩) hS (fun q _ h => jw_free hD1 q h) (jw_free hD1) (fun r2 w2 t9 H2 locs ht hvm hr2 hB2 hz1 hk1 hS => ?_)
  replace hB2 : va_P G.1 lzC (JW G ad w2) t9.heap := hB2
  rw [ht] at hB2
  have hD2 := jw_D w2 hD1
  obtain ⟨hrr, hR2⟩ := hn2 r2 w2 hr2
  clear ht hvm hz1 hk1 hB hD1 hc2 hn2
  refine lv_icmp_eq (tgt := 1382) hx hb dL_law_756 (by decide) (fun c_1 => ?_) (fun c_1 => absurd hrr c_1)
  exact kk w2 H2 locs hR2 hB2 hD2 hS

set_option maxHeartbeats 1000000 in
set_option maxRecDepth 100000 in
theorem lc_harsh (hx : p.tables.exec = Jvm.exec) (hb : c.code = cL_law) (hml : c.maxLocals = 4) (hown : s.vm.findClass RL = some m.cls) (hts : ∀ w ∈ wsL_law, w.before #[Value.ref b] s = true) (hX : va_X b L xs s s.heap) (hbl : b < s.heap.size) (hL : L ≤ 384) (hce : cells ≤ 600000) (hsl : slots ≤ 7302249) (hK : lzK G s) (hSt : lzStr aK aV (fun q => s.heap.size ≤ q) s s.heap) {w : lzSx × lzSm} (hR : RelS w) {i : Nat} (hi : i + 6 ≤ L) {H : Heap} {locs : List Loc} {ls : Array Slot} (hl : lv_has ls 4 [(3, .int (nI i)), (2, .ref (ad 11 0 0)), (1, .ref (ad 0 0 0)), (0, .ref b)]) (hP : va_P G.1 lzC (JW G ad w) H) (hD : va_D (fun q => s.heap.size ≤ q) (JW G ad w)) (hS : va_S (fun q => s.heap.size ≤ q) s.heap H locs)
    (kk : ∀ (w2 : lzSx × lzSm) (H2 : Heap) (locs2 : List Loc), RelS w2 → va_P G.1 lzC (JW G ad w2) H2 → va_D (fun q => s.heap.size ≤ q) (JW G ad w2) → va_S (fun q => s.heap.size ≤ q) s.heap H2 locs2 → W p l e room_1 s m #[Value.ref b] below meth c H2 locs2 cells slots Q (F0 m 1382 ls [])) : W p l e room_1 s m #[Value.ref b] below meth c H locs cells slots Q (F0 m 761 ls []) := by
  have hbA : ¬ (fun q => s.heap.size ≤ q) b := Nat.not_le.mpr hbl
  obtain ⟨⟨C, it, F, FS, RS, RF, MD, MF, cs⟩, B, wy⟩ := w
  refine lv_aload_n hx hb dL_law_761 rfl (lv_at hl 2 rfl) ?_
  refine lv_aload_n hx hb dL_law_762 rfl (lv_at hl 3 rfl) ?_
  refine lv_iload_n hx hb dL_law_763 rfl (lv_at hl 0 rfl) ?_
  refine lv_iconst (v := 1) hx hb dL_law_764 (by decide) ?_
  refine lv_iadd hx hb dL_law_765 ?_
  refine lz_top (y := nI (i + 1)) (by simp only [fa_lit, nI_add]) ?_
  refine va_sld hx hb hX hbl hbA hS (vp_in_nI (by omega) (by omega)) dL_law_766 ?_
  refine lv_aload_n hx hb dL_law_767 rfl (lv_at hl 3 rfl) ?_
  refine lv_iload_n hx hb dL_law_768 rfl (lv_at hl 0 rfl) ?_
  refine lv_iconst (v := 2) hx hb dL_law_769 (by decide) ?_
  refine lv_iadd hx hb dL_law_770 ?_
  refine lz_top (y := nI (i + 2)) (by simp only [fa_lit, nI_add]) ?_
  refine va_sld hx hb hX hbl hbA hS (vp_in_nI (by omega) (by omega)) dL_law_771 ?_
  obtain ⟨P9, hc1, hn1⟩ : stepJ l G ad aK aV yX3_harsh wsX3_harsh yX4_harsh wsX4_harsh [.int (xs (nI (i + 1)).toNatClampNeg), .int (xs (nI (i + 2)).toNatClampNeg)] ((C, it, F, FS, RS, RF, MD, MF, cs), (B, wy)) := stepJ_of _ (st_harsh hR (xs (nI (i + 1)).toNatClampNeg) (xs (nI (i + 2)).toNatClampNeg))
  refine va_calli (va_runV (As := [.int (xs (nI (i + 1)).toNatClampNeg), .int (xs (nI (i + 2)).toNatClampNeg)]) (rest := []) ⟨hx, hb, hml, hown, hts⟩ hc1 (cwV 2 hts gL_law_X3_harsh rfl rfl rfl (by decide +kernel) ⟨(Nat.le_of_ble_eq_true rfl), (Nat.le_of_ble_eq_true rfl)⟩) (rws_preV hK hP hD hSt hS (jw_free hD) (va_recv hK.1 hP (ci := 3) (q0 := 0) rfl rfl)) rfl rfl hl.1 rfl (lv_room (Nat.le_of_ble_eq_true rfl)) dL_law_772 ⟨hce, hsl⟩) hS (fun q _ h => jw_free hD q h) (jw_free hD) (fun r1 w1 t9 H1 locs ht hvm hr1 hB hz1 hk1 hS => ?_)
  replace hB : va_P G.1 lzC (JW G ad w1) t9.heap := hB
  rw [ht] at hB
  have hD1 := jw_D w1 hD
  obtain ⟨Q9, hc2, hn2⟩ := hn1 r1 w1 hr1
  clear ht hvm hz1 hk1 hP hD hc1 hn1
  refine lv_aload_n hx hb dL_law_775 rfl (lv_at hl 1 rfl) ?_
  refine lv_aload_n hx hb dL_law_776 rfl (lv_at hl 3 rfl) ?_
  refine lv_iload_n hx hb dL_law_777 rfl (lv_at hl 0 rfl) ?_
  refine lv_iconst (v := 1) hx hb dL_law_778 (by decide) ?_
  refine lv_iadd hx hb dL_law_779 ?_
  refine lz_top (y := nI (i + 1)) (by simp only [fa_lit, nI_add]) ?_
  refine va_sld hx hb hX hbl hbA hS (vp_in_nI (by omega) (by omega)) dL_law_780 ?_
  refine lv_aload_n hx hb dL_law_781 rfl (lv_at hl 3 rfl) ?_
  refine lv_iload_n hx hb dL_law_782 rfl (lv_at hl 0 rfl) ?_
  refine lv_iconst (v := 2) hx hb dL_law_783 (by decide) ?_
  refine lv_iadd hx hb dL_law_784 ?_
  refine lz_top (y := nI (i + 2)) (by simp only [fa_lit, nI_add]) ?_
  refine va_sld hx hb hX hbl hbA hS (vp_in_nI (by omega) (by omega)) dL_law_785 ?_
  refine va_calli (va_runV (As := [.int (xs (nI (i + 1)).toNatClampNeg), .int (xs (nI (i + 2)).toNatClampNeg)]) (rest := [.int r1]) ⟨hx, hb, hml, hown, hts⟩ hc2 (cwV 2 hts gL_law_X4_harsh rfl rfl rfl (by decide +kernel) ⟨(Nat.le_of_ble_eq_true rfl), (Nat.le_of_ble_eq_true rfl)⟩) (rws_preV hK hB hD1 hSt hS (jw_free hD1) (va_recv hK.1 (P_split hB).2 (ci := 4) (q0 := 0) rfl rfl)) rfl rfl hl.1 rfl (lv_room (Nat.le_of_ble_eq_true rfl)) dL_law_786 ⟨hce, hsl⟩) hS (fun q _ h => jw_free hD1 q h) (jw_free hD1) (fun r2 w2 t9 H2 locs ht hvm hr2 hB2 hz1 hk1 hS => ?_)
  replace hB2 : va_P G.1 lzC (JW G ad w2) t9.heap := hB2
  rw [ht] at hB2
  have hD2 := jw_D w2 hD1
  obtain ⟨hrr, hR2⟩ := hn2 r2 w2 hr2
  clear ht hvm hz1 hk1 hB hD1 hc2 hn2
  refine lv_icmp_eq (tgt := 1382) hx hb dL_law_789 (by decide) (fun c_1 => ?_) (fun c_1 => absurd hrr c_1)
  exact kk w2 H2 locs hR2 hB2 hD2 hS

set_option maxHeartbeats 1000000 in
set_option maxRecDepth 100000 in
theorem lc_keen (hx : p.tables.exec = Jvm.exec) (hb : c.code = cL_law) (hml : c.maxLocals = 4) (hown : s.vm.findClass RL = some m.cls) (hts : ∀ w ∈ wsL_law, w.before #[Value.ref b] s = true) (hX : va_X b L xs s s.heap) (hbl : b < s.heap.size) (hL : L ≤ 384) (hce : cells ≤ 600000) (hsl : slots ≤ 7302249) (hK : lzK G s) (hSt : lzStr aK aV (fun q => s.heap.size ≤ q) s s.heap) {w : lzSx × lzSm} (hR : RelS w) {i : Nat} (hi : i + 6 ≤ L) {H : Heap} {locs : List Loc} {ls : Array Slot} (hl : lv_has ls 4 [(3, .int (nI i)), (2, .ref (ad 11 0 0)), (1, .ref (ad 0 0 0)), (0, .ref b)]) (hP : va_P G.1 lzC (JW G ad w) H) (hD : va_D (fun q => s.heap.size ≤ q) (JW G ad w)) (hS : va_S (fun q => s.heap.size ≤ q) s.heap H locs)
    (kk : ∀ (w2 : lzSx × lzSm) (H2 : Heap) (locs2 : List Loc), RelS w2 → va_P G.1 lzC (JW G ad w2) H2 → va_D (fun q => s.heap.size ≤ q) (JW G ad w2) → va_S (fun q => s.heap.size ≤ q) s.heap H2 locs2 → W p l e room_1 s m #[Value.ref b] below meth c H2 locs2 cells slots Q (F0 m 1382 ls [])) : W p l e room_1 s m #[Value.ref b] below meth c H locs cells slots Q (F0 m 794 ls []) := by
  have hbA : ¬ (fun q => s.heap.size ≤ q) b := Nat.not_le.mpr hbl
  obtain ⟨⟨C, it, F, FS, RS, RF, MD, MF, cs⟩, B, wy⟩ := w
  refine lv_aload_n hx hb dL_law_794 rfl (lv_at hl 2 rfl) ?_
  refine lv_aload_n hx hb dL_law_795 rfl (lv_at hl 3 rfl) ?_
  refine lv_iload_n hx hb dL_law_796 rfl (lv_at hl 0 rfl) ?_
  refine lv_iconst (v := 1) hx hb dL_law_797 (by decide) ?_
  refine lv_iadd hx hb dL_law_798 ?_
  refine lz_top (y := nI (i + 1)) (by simp only [fa_lit, nI_add]) ?_
  refine va_sld hx hb hX hbl hbA hS (vp_in_nI (by omega) (by omega)) dL_law_799 ?_
  obtain ⟨P9, hc1, hn1⟩ : stepJ l G ad aK aV yX3_keen wsX3_keen yX4_keen wsX4_keen [.int (xs (nI (i + 1)).toNatClampNeg)] ((C, it, F, FS, RS, RF, MD, MF, cs), (B, wy)) := stepJ_of _ (st_keen hR (xs (nI (i + 1)).toNatClampNeg))
  refine va_calli (va_runV (As := [.int (xs (nI (i + 1)).toNatClampNeg)]) (rest := []) ⟨hx, hb, hml, hown, hts⟩ hc1 (cwV 1 hts gL_law_X3_keen rfl rfl rfl (by decide +kernel) ⟨(Nat.le_of_ble_eq_true rfl), (Nat.le_of_ble_eq_true rfl)⟩) (rws_preV hK hP hD hSt hS (jw_free hD) (va_recv hK.1 hP (ci := 3) (q0 := 0) rfl rfl)) rfl rfl hl.1 rfl (lv_room (Nat.le_of_ble_eq_true rfl)) dL_law_800 ⟨hce, hsl⟩) hS (fun q _ h => jw_free hD q h) (jw_free hD) (fun r1 w1 t9 H1 locs ht hvm hr1 hB hz1 hk1 hS => ?_)
  replace hB : va_P G.1 lzC (JW G ad w1) t9.heap := hB
  rw [ht] at hB
  have hD1 := jw_D w1 hD
  obtain ⟨Q9, hc2, hn2⟩ := hn1 r1 w1 hr1
  clear ht hvm hz1 hk1 hP hD hc1 hn1
  refine lv_aload_n hx hb dL_law_803 rfl (lv_at hl 1 rfl) ?_
  refine lv_aload_n hx hb dL_law_804 rfl (lv_at hl 3 rfl) ?_
  refine lv_iload_n hx hb dL_law_805 rfl (lv_at hl 0 rfl) ?_
  refine lv_iconst (v := 1) hx hb dL_law_806 (by decide) ?_
  refine lv_iadd hx hb dL_law_807 ?_
  refine lz_top (y := nI (i + 1)) (by simp only [fa_lit, nI_add]) ?_
  refine va_sld hx hb hX hbl hbA hS (vp_in_nI (by omega) (by omega)) dL_law_808 ?_
  refine va_calli (va_runV (As := [.int (xs (nI (i + 1)).toNatClampNeg)]) (rest := [.int r1]) ⟨hx, hb, hml, hown, hts⟩ hc2 (cwV 1 hts gL_law_X4_keen rfl rfl rfl (by decide +kernel) ⟨(Nat.le_of_ble_eq_true rfl), (Nat.le_of_ble_eq_true rfl)⟩) (rws_preV hK hB hD1 hSt hS (jw_free hD1) (va_recv hK.1 (P_split hB).2 (ci := 4) (q0 := 0) rfl rfl)) rfl rfl hl.1 rfl (lv_room (Nat.le_of_ble_eq_true rfl)) dL_law_809 ⟨hce, hsl⟩) hS (fun q _ h => jw_free hD1 q h) (jw_free hD1) (fun r2 w2 t9 H2 locs ht hvm hr2 hB2 hz1 hk1 hS => ?_)
  replace hB2 : va_P G.1 lzC (JW G ad w2) t9.heap := hB2
  rw [ht] at hB2
  have hD2 := jw_D w2 hD1
  obtain ⟨hrr, hR2⟩ := hn2 r2 w2 hr2
  clear ht hvm hz1 hk1 hB hD1 hc2 hn2
  refine lv_icmp_eq (tgt := 1382) hx hb dL_law_812 (by decide) (fun c_1 => ?_) (fun c_1 => absurd hrr c_1)
  exact kk w2 H2 locs hR2 hB2 hD2 hS

set_option maxHeartbeats 1000000 in
set_option maxRecDepth 100000 in
theorem lc_tells (hx : p.tables.exec = Jvm.exec) (hb : c.code = cL_law) (hml : c.maxLocals = 4) (hown : s.vm.findClass RL = some m.cls) (hts : ∀ w ∈ wsL_law, w.before #[Value.ref b] s = true) (hX : va_X b L xs s s.heap) (hbl : b < s.heap.size) (hL : L ≤ 384) (hce : cells ≤ 600000) (hsl : slots ≤ 7302249) (hK : lzK G s) (hSt : lzStr aK aV (fun q => s.heap.size ≤ q) s s.heap) {w : lzSx × lzSm} (hR : RelS w) {i : Nat} (hi : i + 6 ≤ L) {H : Heap} {locs : List Loc} {ls : Array Slot} (hl : lv_has ls 4 [(3, .int (nI i)), (2, .ref (ad 11 0 0)), (1, .ref (ad 0 0 0)), (0, .ref b)]) (hP : va_P G.1 lzC (JW G ad w) H) (hD : va_D (fun q => s.heap.size ≤ q) (JW G ad w)) (hS : va_S (fun q => s.heap.size ≤ q) s.heap H locs)
    (kk : ∀ (w2 : lzSx × lzSm) (H2 : Heap) (locs2 : List Loc), RelS w2 → va_P G.1 lzC (JW G ad w2) H2 → va_D (fun q => s.heap.size ≤ q) (JW G ad w2) → va_S (fun q => s.heap.size ≤ q) s.heap H2 locs2 → W p l e room_1 s m #[Value.ref b] below meth c H2 locs2 cells slots Q (F0 m 1382 ls [])) : W p l e room_1 s m #[Value.ref b] below meth c H locs cells slots Q (F0 m 817 ls []) := by
  have hbA : ¬ (fun q => s.heap.size ≤ q) b := Nat.not_le.mpr hbl
  obtain ⟨⟨C, it, F, FS, RS, RF, MD, MF, cs⟩, B, wy⟩ := w
  refine lv_aload_n hx hb dL_law_817 rfl (lv_at hl 2 rfl) ?_
  refine lv_aload_n hx hb dL_law_818 rfl (lv_at hl 3 rfl) ?_
  refine lv_iload_n hx hb dL_law_819 rfl (lv_at hl 0 rfl) ?_
  refine lv_iconst (v := 1) hx hb dL_law_820 (by decide) ?_
  refine lv_iadd hx hb dL_law_821 ?_
  refine lz_top (y := nI (i + 1)) (by simp only [fa_lit, nI_add]) ?_
  refine va_sld hx hb hX hbl hbA hS (vp_in_nI (by omega) (by omega)) dL_law_822 ?_
  refine lv_aload_n hx hb dL_law_823 rfl (lv_at hl 3 rfl) ?_
  refine lv_iload_n hx hb dL_law_824 rfl (lv_at hl 0 rfl) ?_
  refine lv_iconst (v := 2) hx hb dL_law_825 (by decide) ?_
  refine lv_iadd hx hb dL_law_826 ?_
  refine lz_top (y := nI (i + 2)) (by simp only [fa_lit, nI_add]) ?_
  refine va_sld hx hb hX hbl hbA hS (vp_in_nI (by omega) (by omega)) dL_law_827 ?_
  obtain ⟨P9, hc1, hn1⟩ : stepJ l G ad aK aV yX3_tells wsX3_tells yX4_tells wsX4_tells [.int (xs (nI (i + 1)).toNatClampNeg), .int (xs (nI (i + 2)).toNatClampNeg)] ((C, it, F, FS, RS, RF, MD, MF, cs), (B, wy)) := stepJ_of _ (st_tells hR (xs (nI (i + 1)).toNatClampNeg) (xs (nI (i + 2)).toNatClampNeg))
  refine va_calli (va_runV (As := [.int (xs (nI (i + 1)).toNatClampNeg), .int (xs (nI (i + 2)).toNatClampNeg)]) (rest := []) ⟨hx, hb, hml, hown, hts⟩ hc1 (cwV 2 hts gL_law_X3_tells rfl rfl rfl (by decide +kernel) ⟨(Nat.le_of_ble_eq_true rfl), (Nat.le_of_ble_eq_true rfl)⟩) (rws_preV hK hP hD hSt hS (jw_free hD) (va_recv hK.1 hP (ci := 3) (q0 := 0) rfl rfl)) rfl rfl hl.1 rfl (lv_room (Nat.le_of_ble_eq_true rfl)) dL_law_828 ⟨hce, hsl⟩) hS (fun q _ h => jw_free hD q h) (jw_free hD) (fun r1 w1 t9 H1 locs ht hvm hr1 hB hz1 hk1 hS => ?_)
  replace hB : va_P G.1 lzC (JW G ad w1) t9.heap := hB
  rw [ht] at hB
  have hD1 := jw_D w1 hD
  obtain ⟨Q9, hc2, hn2⟩ := hn1 r1 w1 hr1
  clear ht hvm hz1 hk1 hP hD hc1 hn1
  refine lv_aload_n hx hb dL_law_831 rfl (lv_at hl 1 rfl) ?_
  refine lv_aload_n hx hb dL_law_832 rfl (lv_at hl 3 rfl) ?_
  refine lv_iload_n hx hb dL_law_833 rfl (lv_at hl 0 rfl) ?_
  refine lv_iconst (v := 1) hx hb dL_law_834 (by decide) ?_
  refine lv_iadd hx hb dL_law_835 ?_
  refine lz_top (y := nI (i + 1)) (by simp only [fa_lit, nI_add]) ?_
  refine va_sld hx hb hX hbl hbA hS (vp_in_nI (by omega) (by omega)) dL_law_836 ?_
  refine lv_aload_n hx hb dL_law_837 rfl (lv_at hl 3 rfl) ?_
  refine lv_iload_n hx hb dL_law_838 rfl (lv_at hl 0 rfl) ?_
  refine lv_iconst (v := 2) hx hb dL_law_839 (by decide) ?_
  refine lv_iadd hx hb dL_law_840 ?_
  refine lz_top (y := nI (i + 2)) (by simp only [fa_lit, nI_add]) ?_
  refine va_sld hx hb hX hbl hbA hS (vp_in_nI (by omega) (by omega)) dL_law_841 ?_
  refine va_calli (va_runV (As := [.int (xs (nI (i + 1)).toNatClampNeg), .int (xs (nI (i + 2)).toNatClampNeg)]) (rest := [.int r1]) ⟨hx, hb, hml, hown, hts⟩ hc2 (cwV 2 hts gL_law_X4_tells rfl rfl rfl (by decide +kernel) ⟨(Nat.le_of_ble_eq_true rfl), (Nat.le_of_ble_eq_true rfl)⟩) (rws_preV hK hB hD1 hSt hS (jw_free hD1) (va_recv hK.1 (P_split hB).2 (ci := 4) (q0 := 0) rfl rfl)) rfl rfl hl.1 rfl (lv_room (Nat.le_of_ble_eq_true rfl)) dL_law_842 ⟨hce, hsl⟩) hS (fun q _ h => jw_free hD1 q h) (jw_free hD1) (fun r2 w2 t9 H2 locs ht hvm hr2 hB2 hz1 hk1 hS => ?_)
  replace hB2 : va_P G.1 lzC (JW G ad w2) t9.heap := hB2
  rw [ht] at hB2
  have hD2 := jw_D w2 hD1
  obtain ⟨hrr, hR2⟩ := hn2 r2 w2 hr2
  clear ht hvm hz1 hk1 hB hD1 hc2 hn2
  refine lv_icmp_eq (tgt := 1382) hx hb dL_law_845 (by decide) (fun c_1 => ?_) (fun c_1 => absurd hrr c_1)
  exact kk w2 H2 locs hR2 hB2 hD2 hS

set_option maxHeartbeats 1000000 in
set_option maxRecDepth 100000 in
theorem lc_learned (hx : p.tables.exec = Jvm.exec) (hb : c.code = cL_law) (hml : c.maxLocals = 4) (hown : s.vm.findClass RL = some m.cls) (hts : ∀ w ∈ wsL_law, w.before #[Value.ref b] s = true) (hX : va_X b L xs s s.heap) (hbl : b < s.heap.size) (hL : L ≤ 384) (hce : cells ≤ 600000) (hsl : slots ≤ 7302249) (hK : lzK G s) (hSt : lzStr aK aV (fun q => s.heap.size ≤ q) s s.heap) {w : lzSx × lzSm} (hR : RelS w) {i : Nat} (hi : i + 6 ≤ L) {H : Heap} {locs : List Loc} {ls : Array Slot} (hl : lv_has ls 4 [(3, .int (nI i)), (2, .ref (ad 11 0 0)), (1, .ref (ad 0 0 0)), (0, .ref b)]) (hP : va_P G.1 lzC (JW G ad w) H) (hD : va_D (fun q => s.heap.size ≤ q) (JW G ad w)) (hS : va_S (fun q => s.heap.size ≤ q) s.heap H locs)
    (kk : ∀ (w2 : lzSx × lzSm) (H2 : Heap) (locs2 : List Loc), RelS w2 → va_P G.1 lzC (JW G ad w2) H2 → va_D (fun q => s.heap.size ≤ q) (JW G ad w2) → va_S (fun q => s.heap.size ≤ q) s.heap H2 locs2 → W p l e room_1 s m #[Value.ref b] below meth c H2 locs2 cells slots Q (F0 m 1382 ls [])) : W p l e room_1 s m #[Value.ref b] below meth c H locs cells slots Q (F0 m 850 ls []) := by
  have hbA : ¬ (fun q => s.heap.size ≤ q) b := Nat.not_le.mpr hbl
  obtain ⟨⟨C, it, F, FS, RS, RF, MD, MF, cs⟩, B, wy⟩ := w
  refine lv_aload_n hx hb dL_law_850 rfl (lv_at hl 2 rfl) ?_
  refine lv_aload_n hx hb dL_law_851 rfl (lv_at hl 3 rfl) ?_
  refine lv_iload_n hx hb dL_law_852 rfl (lv_at hl 0 rfl) ?_
  refine lv_iconst (v := 1) hx hb dL_law_853 (by decide) ?_
  refine lv_iadd hx hb dL_law_854 ?_
  refine lz_top (y := nI (i + 1)) (by simp only [fa_lit, nI_add]) ?_
  refine va_sld hx hb hX hbl hbA hS (vp_in_nI (by omega) (by omega)) dL_law_855 ?_
  obtain ⟨P9, hc1, hn1⟩ : stepJ l G ad aK aV yX3_learned wsX3_learned yX4_learned wsX4_learned [.int (xs (nI (i + 1)).toNatClampNeg)] ((C, it, F, FS, RS, RF, MD, MF, cs), (B, wy)) := stepJ_of _ (st_learned hR (xs (nI (i + 1)).toNatClampNeg))
  refine va_calli (va_runV (As := [.int (xs (nI (i + 1)).toNatClampNeg)]) (rest := []) ⟨hx, hb, hml, hown, hts⟩ hc1 (cwV 1 hts gL_law_X3_learned rfl rfl rfl (by decide +kernel) ⟨(Nat.le_of_ble_eq_true rfl), (Nat.le_of_ble_eq_true rfl)⟩) (rws_preV hK hP hD hSt hS (jw_free hD) (va_recv hK.1 hP (ci := 3) (q0 := 0) rfl rfl)) rfl rfl hl.1 rfl (lv_room (Nat.le_of_ble_eq_true rfl)) dL_law_856 ⟨hce, hsl⟩) hS (fun q _ h => jw_free hD q h) (jw_free hD) (fun r1 w1 t9 H1 locs ht hvm hr1 hB hz1 hk1 hS => ?_)
  replace hB : va_P G.1 lzC (JW G ad w1) t9.heap := hB
  rw [ht] at hB
  have hD1 := jw_D w1 hD
  obtain ⟨Q9, hc2, hn2⟩ := hn1 r1 w1 hr1
  clear ht hvm hz1 hk1 hP hD hc1 hn1
  refine lv_aload_n hx hb dL_law_859 rfl (lv_at hl 1 rfl) ?_
  refine lv_aload_n hx hb dL_law_860 rfl (lv_at hl 3 rfl) ?_
  refine lv_iload_n hx hb dL_law_861 rfl (lv_at hl 0 rfl) ?_
  refine lv_iconst (v := 1) hx hb dL_law_862 (by decide) ?_
  refine lv_iadd hx hb dL_law_863 ?_
  refine lz_top (y := nI (i + 1)) (by simp only [fa_lit, nI_add]) ?_
  refine va_sld hx hb hX hbl hbA hS (vp_in_nI (by omega) (by omega)) dL_law_864 ?_
  refine va_calli (va_runV (As := [.int (xs (nI (i + 1)).toNatClampNeg)]) (rest := [.int r1]) ⟨hx, hb, hml, hown, hts⟩ hc2 (cwV 1 hts gL_law_X4_learned rfl rfl rfl (by decide +kernel) ⟨(Nat.le_of_ble_eq_true rfl), (Nat.le_of_ble_eq_true rfl)⟩) (rws_preV hK hB hD1 hSt hS (jw_free hD1) (va_recv hK.1 (P_split hB).2 (ci := 4) (q0 := 0) rfl rfl)) rfl rfl hl.1 rfl (lv_room (Nat.le_of_ble_eq_true rfl)) dL_law_865 ⟨hce, hsl⟩) hS (fun q _ h => jw_free hD1 q h) (jw_free hD1) (fun r2 w2 t9 H2 locs ht hvm hr2 hB2 hz1 hk1 hS => ?_)
  replace hB2 : va_P G.1 lzC (JW G ad w2) t9.heap := hB2
  rw [ht] at hB2
  have hD2 := jw_D w2 hD1
  obtain ⟨hrr, hR2⟩ := hn2 r2 w2 hr2
  clear ht hvm hz1 hk1 hB hD1 hc2 hn2
  refine lv_icmp_eq (tgt := 1382) hx hb dL_law_868 (by decide) (fun c_1 => ?_) (fun c_1 => absurd hrr c_1)
  exact kk w2 H2 locs hR2 hB2 hD2 hS

set_option maxHeartbeats 1000000 in
set_option maxRecDepth 100000 in
theorem lc_needs (hx : p.tables.exec = Jvm.exec) (hb : c.code = cL_law) (hml : c.maxLocals = 4) (hown : s.vm.findClass RL = some m.cls) (hts : ∀ w ∈ wsL_law, w.before #[Value.ref b] s = true) (hX : va_X b L xs s s.heap) (hbl : b < s.heap.size) (hL : L ≤ 384) (hce : cells ≤ 600000) (hsl : slots ≤ 7302249) (hK : lzK G s) (hSt : lzStr aK aV (fun q => s.heap.size ≤ q) s s.heap) {w : lzSx × lzSm} (hR : RelS w) {i : Nat} (hi : i + 6 ≤ L) {H : Heap} {locs : List Loc} {ls : Array Slot} (hl : lv_has ls 4 [(3, .int (nI i)), (2, .ref (ad 11 0 0)), (1, .ref (ad 0 0 0)), (0, .ref b)]) (hP : va_P G.1 lzC (JW G ad w) H) (hD : va_D (fun q => s.heap.size ≤ q) (JW G ad w)) (hS : va_S (fun q => s.heap.size ≤ q) s.heap H locs)
    (kk : ∀ (w2 : lzSx × lzSm) (H2 : Heap) (locs2 : List Loc), RelS w2 → va_P G.1 lzC (JW G ad w2) H2 → va_D (fun q => s.heap.size ≤ q) (JW G ad w2) → va_S (fun q => s.heap.size ≤ q) s.heap H2 locs2 → W p l e room_1 s m #[Value.ref b] below meth c H2 locs2 cells slots Q (F0 m 1382 ls [])) : W p l e room_1 s m #[Value.ref b] below meth c H locs cells slots Q (F0 m 873 ls []) := by
  have hbA : ¬ (fun q => s.heap.size ≤ q) b := Nat.not_le.mpr hbl
  obtain ⟨⟨C, it, F, FS, RS, RF, MD, MF, cs⟩, B, wy⟩ := w
  refine lv_aload_n hx hb dL_law_873 rfl (lv_at hl 2 rfl) ?_
  refine lv_aload_n hx hb dL_law_874 rfl (lv_at hl 3 rfl) ?_
  refine lv_iload_n hx hb dL_law_875 rfl (lv_at hl 0 rfl) ?_
  refine lv_iconst (v := 1) hx hb dL_law_876 (by decide) ?_
  refine lv_iadd hx hb dL_law_877 ?_
  refine lz_top (y := nI (i + 1)) (by simp only [fa_lit, nI_add]) ?_
  refine va_sld hx hb hX hbl hbA hS (vp_in_nI (by omega) (by omega)) dL_law_878 ?_
  obtain ⟨P9, hc1, hn1⟩ : stepJ l G ad aK aV yX3_needs wsX3_needs yX4_needs wsX4_needs [.int (xs (nI (i + 1)).toNatClampNeg)] ((C, it, F, FS, RS, RF, MD, MF, cs), (B, wy)) := stepJ_of _ (st_needs hR (xs (nI (i + 1)).toNatClampNeg))
  refine va_calli (va_runV (As := [.int (xs (nI (i + 1)).toNatClampNeg)]) (rest := []) ⟨hx, hb, hml, hown, hts⟩ hc1 (cwV 1 hts gL_law_X3_needs rfl rfl rfl (by decide +kernel) ⟨(Nat.le_of_ble_eq_true rfl), (Nat.le_of_ble_eq_true rfl)⟩) (rws_preV hK hP hD hSt hS (jw_free hD) (va_recv hK.1 hP (ci := 3) (q0 := 0) rfl rfl)) rfl rfl hl.1 rfl (lv_room (Nat.le_of_ble_eq_true rfl)) dL_law_879 ⟨hce, hsl⟩) hS (fun q _ h => jw_free hD q h) (jw_free hD) (fun r1 w1 t9 H1 locs ht hvm hr1 hB hz1 hk1 hS => ?_)
  replace hB : va_P G.1 lzC (JW G ad w1) t9.heap := hB
  rw [ht] at hB
  have hD1 := jw_D w1 hD
  obtain ⟨Q9, hc2, hn2⟩ := hn1 r1 w1 hr1
  clear ht hvm hz1 hk1 hP hD hc1 hn1
  refine lv_aload_n hx hb dL_law_882 rfl (lv_at hl 1 rfl) ?_
  refine lv_aload_n hx hb dL_law_883 rfl (lv_at hl 3 rfl) ?_
  refine lv_iload_n hx hb dL_law_884 rfl (lv_at hl 0 rfl) ?_
  refine lv_iconst (v := 1) hx hb dL_law_885 (by decide) ?_
  refine lv_iadd hx hb dL_law_886 ?_
  refine lz_top (y := nI (i + 1)) (by simp only [fa_lit, nI_add]) ?_
  refine va_sld hx hb hX hbl hbA hS (vp_in_nI (by omega) (by omega)) dL_law_887 ?_
  refine va_calli (va_runV (As := [.int (xs (nI (i + 1)).toNatClampNeg)]) (rest := [.int r1]) ⟨hx, hb, hml, hown, hts⟩ hc2 (cwV 1 hts gL_law_X4_needs rfl rfl rfl (by decide +kernel) ⟨(Nat.le_of_ble_eq_true rfl), (Nat.le_of_ble_eq_true rfl)⟩) (rws_preV hK hB hD1 hSt hS (jw_free hD1) (va_recv hK.1 (P_split hB).2 (ci := 4) (q0 := 0) rfl rfl)) rfl rfl hl.1 rfl (lv_room (Nat.le_of_ble_eq_true rfl)) dL_law_888 ⟨hce, hsl⟩) hS (fun q _ h => jw_free hD1 q h) (jw_free hD1) (fun r2 w2 t9 H2 locs ht hvm hr2 hB2 hz1 hk1 hS => ?_)
  replace hB2 : va_P G.1 lzC (JW G ad w2) t9.heap := hB2
  rw [ht] at hB2
  have hD2 := jw_D w2 hD1
  obtain ⟨hrr, hR2⟩ := hn2 r2 w2 hr2
  clear ht hvm hz1 hk1 hB hD1 hc2 hn2
  refine lv_icmp_eq (tgt := 1382) hx hb dL_law_891 (by decide) (fun c_1 => ?_) (fun c_1 => absurd hrr c_1)
  exact kk w2 H2 locs hR2 hB2 hD2 hS

set_option maxHeartbeats 1000000 in
set_option maxRecDepth 100000 in
theorem lc_save (hx : p.tables.exec = Jvm.exec) (hb : c.code = cL_law) (hml : c.maxLocals = 4) (hown : s.vm.findClass RL = some m.cls) (hts : ∀ w ∈ wsL_law, w.before #[Value.ref b] s = true) (hX : va_X b L xs s s.heap) (hbl : b < s.heap.size) (hL : L ≤ 384) (hce : cells ≤ 600000) (hsl : slots ≤ 7302249) (hK : lzK G s) (hSt : lzStr aK aV (fun q => s.heap.size ≤ q) s s.heap) {w : lzSx × lzSm} (hR : RelS w) {i : Nat} (hi : i + 6 ≤ L) {H : Heap} {locs : List Loc} {ls : Array Slot} (hl : lv_has ls 4 [(3, .int (nI i)), (2, .ref (ad 11 0 0)), (1, .ref (ad 0 0 0)), (0, .ref b)]) (hP : va_P G.1 lzC (JW G ad w) H) (hD : va_D (fun q => s.heap.size ≤ q) (JW G ad w)) (hS : va_S (fun q => s.heap.size ≤ q) s.heap H locs)
    (kk : ∀ (w2 : lzSx × lzSm) (H2 : Heap) (locs2 : List Loc), RelS w2 → va_P G.1 lzC (JW G ad w2) H2 → va_D (fun q => s.heap.size ≤ q) (JW G ad w2) → va_S (fun q => s.heap.size ≤ q) s.heap H2 locs2 → W p l e room_1 s m #[Value.ref b] below meth c H2 locs2 cells slots Q (F0 m 1382 ls [])) : W p l e room_1 s m #[Value.ref b] below meth c H locs cells slots Q (F0 m 896 ls []) := by
  have hbA : ¬ (fun q => s.heap.size ≤ q) b := Nat.not_le.mpr hbl
  obtain ⟨⟨C, it, F, FS, RS, RF, MD, MF, cs⟩, B, wy⟩ := w
  refine lv_aload_n hx hb dL_law_896 rfl (lv_at hl 2 rfl) ?_
  refine lv_aload_n hx hb dL_law_897 rfl (lv_at hl 3 rfl) ?_
  refine lv_iload_n hx hb dL_law_898 rfl (lv_at hl 0 rfl) ?_
  refine lv_iconst (v := 1) hx hb dL_law_899 (by decide) ?_
  refine lv_iadd hx hb dL_law_900 ?_
  refine lz_top (y := nI (i + 1)) (by simp only [fa_lit, nI_add]) ?_
  refine va_sld hx hb hX hbl hbA hS (vp_in_nI (by omega) (by omega)) dL_law_901 ?_
  refine lv_aload_n hx hb dL_law_902 rfl (lv_at hl 3 rfl) ?_
  refine lv_iload_n hx hb dL_law_903 rfl (lv_at hl 0 rfl) ?_
  refine lv_iconst (v := 2) hx hb dL_law_904 (by decide) ?_
  refine lv_iadd hx hb dL_law_905 ?_
  refine lz_top (y := nI (i + 2)) (by simp only [fa_lit, nI_add]) ?_
  refine va_sld hx hb hX hbl hbA hS (vp_in_nI (by omega) (by omega)) dL_law_906 ?_
  obtain ⟨P9, hc1, hn1⟩ : stepJ l G ad aK aV yX3_save wsX3_save yX4_save wsX4_save [.int (xs (nI (i + 1)).toNatClampNeg), .int (xs (nI (i + 2)).toNatClampNeg)] ((C, it, F, FS, RS, RF, MD, MF, cs), (B, wy)) := stepJ_of _ (st_save hR (xs (nI (i + 1)).toNatClampNeg) (xs (nI (i + 2)).toNatClampNeg))
  refine va_calli (va_runV (As := [.int (xs (nI (i + 1)).toNatClampNeg), .int (xs (nI (i + 2)).toNatClampNeg)]) (rest := []) ⟨hx, hb, hml, hown, hts⟩ hc1 (cwV 2 hts gL_law_X3_save rfl rfl rfl (by decide +kernel) ⟨(Nat.le_of_ble_eq_true rfl), (Nat.le_of_ble_eq_true rfl)⟩) (rws_preV hK hP hD hSt hS (jw_free hD) (va_recv hK.1 hP (ci := 3) (q0 := 0) rfl rfl)) rfl rfl hl.1 rfl (lv_room (Nat.le_of_ble_eq_true rfl)) dL_law_907 ⟨hce, hsl⟩) hS (fun q _ h => jw_free hD q h) (jw_free hD) (fun r1 w1 t9 H1 locs ht hvm hr1 hB hz1 hk1 hS => ?_)
  replace hB : va_P G.1 lzC (JW G ad w1) t9.heap := hB
  rw [ht] at hB
  have hD1 := jw_D w1 hD
  obtain ⟨Q9, hc2, hn2⟩ := hn1 r1 w1 hr1
  clear ht hvm hz1 hk1 hP hD hc1 hn1
  refine lv_aload_n hx hb dL_law_910 rfl (lv_at hl 1 rfl) ?_
  refine lv_aload_n hx hb dL_law_911 rfl (lv_at hl 3 rfl) ?_
  refine lv_iload_n hx hb dL_law_912 rfl (lv_at hl 0 rfl) ?_
  refine lv_iconst (v := 1) hx hb dL_law_913 (by decide) ?_
  refine lv_iadd hx hb dL_law_914 ?_
  refine lz_top (y := nI (i + 1)) (by simp only [fa_lit, nI_add]) ?_
  refine va_sld hx hb hX hbl hbA hS (vp_in_nI (by omega) (by omega)) dL_law_915 ?_
  refine lv_aload_n hx hb dL_law_916 rfl (lv_at hl 3 rfl) ?_
  refine lv_iload_n hx hb dL_law_917 rfl (lv_at hl 0 rfl) ?_
  refine lv_iconst (v := 2) hx hb dL_law_918 (by decide) ?_
  refine lv_iadd hx hb dL_law_919 ?_
  refine lz_top (y := nI (i + 2)) (by simp only [fa_lit, nI_add]) ?_
  refine va_sld hx hb hX hbl hbA hS (vp_in_nI (by omega) (by omega)) dL_law_920 ?_
  refine va_calli (va_runV (As := [.int (xs (nI (i + 1)).toNatClampNeg), .int (xs (nI (i + 2)).toNatClampNeg)]) (rest := [.int r1]) ⟨hx, hb, hml, hown, hts⟩ hc2 (cwV 2 hts gL_law_X4_save rfl rfl rfl (by decide +kernel) ⟨(Nat.le_of_ble_eq_true rfl), (Nat.le_of_ble_eq_true rfl)⟩) (rws_preV hK hB hD1 hSt hS (jw_free hD1) (va_recv hK.1 (P_split hB).2 (ci := 4) (q0 := 0) rfl rfl)) rfl rfl hl.1 rfl (lv_room (Nat.le_of_ble_eq_true rfl)) dL_law_921 ⟨hce, hsl⟩) hS (fun q _ h => jw_free hD1 q h) (jw_free hD1) (fun r2 w2 t9 H2 locs ht hvm hr2 hB2 hz1 hk1 hS => ?_)
  replace hB2 : va_P G.1 lzC (JW G ad w2) t9.heap := hB2
  rw [ht] at hB2
  have hD2 := jw_D w2 hD1
  obtain ⟨hrr, hR2⟩ := hn2 r2 w2 hr2
  clear ht hvm hz1 hk1 hB hD1 hc2 hn2
  refine lv_icmp_eq (tgt := 1382) hx hb dL_law_924 (by decide) (fun c_1 => ?_) (fun c_1 => absurd hrr c_1)
  exact kk w2 H2 locs hR2 hB2 hD2 hS

set_option maxHeartbeats 1000000 in
set_option maxRecDepth 100000 in
theorem lc_shares (hx : p.tables.exec = Jvm.exec) (hb : c.code = cL_law) (hml : c.maxLocals = 4) (hown : s.vm.findClass RL = some m.cls) (hts : ∀ w ∈ wsL_law, w.before #[Value.ref b] s = true) (hX : va_X b L xs s s.heap) (hbl : b < s.heap.size) (hL : L ≤ 384) (hce : cells ≤ 600000) (hsl : slots ≤ 7302249) (hK : lzK G s) (hSt : lzStr aK aV (fun q => s.heap.size ≤ q) s s.heap) {w : lzSx × lzSm} (hR : RelS w) {i : Nat} (hi : i + 6 ≤ L) {H : Heap} {locs : List Loc} {ls : Array Slot} (hl : lv_has ls 4 [(3, .int (nI i)), (2, .ref (ad 11 0 0)), (1, .ref (ad 0 0 0)), (0, .ref b)]) (hP : va_P G.1 lzC (JW G ad w) H) (hD : va_D (fun q => s.heap.size ≤ q) (JW G ad w)) (hS : va_S (fun q => s.heap.size ≤ q) s.heap H locs)
    (kk : ∀ (w2 : lzSx × lzSm) (H2 : Heap) (locs2 : List Loc), RelS w2 → va_P G.1 lzC (JW G ad w2) H2 → va_D (fun q => s.heap.size ≤ q) (JW G ad w2) → va_S (fun q => s.heap.size ≤ q) s.heap H2 locs2 → W p l e room_1 s m #[Value.ref b] below meth c H2 locs2 cells slots Q (F0 m 1382 ls [])) : W p l e room_1 s m #[Value.ref b] below meth c H locs cells slots Q (F0 m 929 ls []) := by
  have hbA : ¬ (fun q => s.heap.size ≤ q) b := Nat.not_le.mpr hbl
  obtain ⟨⟨C, it, F, FS, RS, RF, MD, MF, cs⟩, B, wy⟩ := w
  refine lv_aload_n hx hb dL_law_929 rfl (lv_at hl 2 rfl) ?_
  refine lv_aload_n hx hb dL_law_930 rfl (lv_at hl 3 rfl) ?_
  refine lv_iload_n hx hb dL_law_931 rfl (lv_at hl 0 rfl) ?_
  refine lv_iconst (v := 1) hx hb dL_law_932 (by decide) ?_
  refine lv_iadd hx hb dL_law_933 ?_
  refine lz_top (y := nI (i + 1)) (by simp only [fa_lit, nI_add]) ?_
  refine va_sld hx hb hX hbl hbA hS (vp_in_nI (by omega) (by omega)) dL_law_934 ?_
  refine lv_aload_n hx hb dL_law_935 rfl (lv_at hl 3 rfl) ?_
  refine lv_iload_n hx hb dL_law_936 rfl (lv_at hl 0 rfl) ?_
  refine lv_iconst (v := 2) hx hb dL_law_937 (by decide) ?_
  refine lv_iadd hx hb dL_law_938 ?_
  refine lz_top (y := nI (i + 2)) (by simp only [fa_lit, nI_add]) ?_
  refine va_sld hx hb hX hbl hbA hS (vp_in_nI (by omega) (by omega)) dL_law_939 ?_
  refine lv_aload_n hx hb dL_law_940 rfl (lv_at hl 3 rfl) ?_
  refine lv_iload_n hx hb dL_law_941 rfl (lv_at hl 0 rfl) ?_
  refine lv_iconst (v := 3) hx hb dL_law_942 (by decide) ?_
  refine lv_iadd hx hb dL_law_943 ?_
  refine lz_top (y := nI (i + 3)) (by simp only [fa_lit, nI_add]) ?_
  refine va_sld hx hb hX hbl hbA hS (vp_in_nI (by omega) (by omega)) dL_law_944 ?_
  obtain ⟨P9, hc1, hn1⟩ : stepJ l G ad aK aV yX3_shares wsX3_shares yX4_shares wsX4_shares [.int (xs (nI (i + 1)).toNatClampNeg), .int (xs (nI (i + 2)).toNatClampNeg), .int (xs (nI (i + 3)).toNatClampNeg)] ((C, it, F, FS, RS, RF, MD, MF, cs), (B, wy)) := stepJ_of _ (st_shares hR (xs (nI (i + 1)).toNatClampNeg) (xs (nI (i + 2)).toNatClampNeg) (xs (nI (i + 3)).toNatClampNeg))
  refine va_calli (va_runV (As := [.int (xs (nI (i + 1)).toNatClampNeg), .int (xs (nI (i + 2)).toNatClampNeg), .int (xs (nI (i + 3)).toNatClampNeg)]) (rest := []) ⟨hx, hb, hml, hown, hts⟩ hc1 (cwV 3 hts gL_law_X3_shares rfl rfl rfl (by decide +kernel) ⟨(Nat.le_of_ble_eq_true rfl), (Nat.le_of_ble_eq_true rfl)⟩) (rws_preV hK hP hD hSt hS (jw_free hD) (va_recv hK.1 hP (ci := 3) (q0 := 0) rfl rfl)) rfl rfl hl.1 rfl (lv_room (Nat.le_of_ble_eq_true rfl)) dL_law_945 ⟨hce, hsl⟩) hS (fun q _ h => jw_free hD q h) (jw_free hD) (fun r1 w1 t9 H1 locs ht hvm hr1 hB hz1 hk1 hS => ?_)
  replace hB : va_P G.1 lzC (JW G ad w1) t9.heap := hB
  rw [ht] at hB
  have hD1 := jw_D w1 hD
  obtain ⟨Q9, hc2, hn2⟩ := hn1 r1 w1 hr1
  clear ht hvm hz1 hk1 hP hD hc1 hn1
  refine lv_aload_n hx hb dL_law_948 rfl (lv_at hl 1 rfl) ?_
  refine lv_aload_n hx hb dL_law_949 rfl (lv_at hl 3 rfl) ?_
  refine lv_iload_n hx hb dL_law_950 rfl (lv_at hl 0 rfl) ?_
  refine lv_iconst (v := 1) hx hb dL_law_951 (by decide) ?_
  refine lv_iadd hx hb dL_law_952 ?_
  refine lz_top (y := nI (i + 1)) (by simp only [fa_lit, nI_add]) ?_
  refine va_sld hx hb hX hbl hbA hS (vp_in_nI (by omega) (by omega)) dL_law_953 ?_
  refine lv_aload_n hx hb dL_law_954 rfl (lv_at hl 3 rfl) ?_
  refine lv_iload_n hx hb dL_law_955 rfl (lv_at hl 0 rfl) ?_
  refine lv_iconst (v := 2) hx hb dL_law_956 (by decide) ?_
  refine lv_iadd hx hb dL_law_957 ?_
  refine lz_top (y := nI (i + 2)) (by simp only [fa_lit, nI_add]) ?_
  refine va_sld hx hb hX hbl hbA hS (vp_in_nI (by omega) (by omega)) dL_law_958 ?_
  refine lv_aload_n hx hb dL_law_959 rfl (lv_at hl 3 rfl) ?_
  refine lv_iload_n hx hb dL_law_960 rfl (lv_at hl 0 rfl) ?_
  refine lv_iconst (v := 3) hx hb dL_law_961 (by decide) ?_
  refine lv_iadd hx hb dL_law_962 ?_
  refine lz_top (y := nI (i + 3)) (by simp only [fa_lit, nI_add]) ?_
  refine va_sld hx hb hX hbl hbA hS (vp_in_nI (by omega) (by omega)) dL_law_963 ?_
  refine va_calli (va_runV (As := [.int (xs (nI (i + 1)).toNatClampNeg), .int (xs (nI (i + 2)).toNatClampNeg), .int (xs (nI (i + 3)).toNatClampNeg)]) (rest := [.int r1]) ⟨hx, hb, hml, hown, hts⟩ hc2 (cwV 3 hts gL_law_X4_shares rfl rfl rfl (by decide +kernel) ⟨(Nat.le_of_ble_eq_true rfl), (Nat.le_of_ble_eq_true rfl)⟩) (rws_preV hK hB hD1 hSt hS (jw_free hD1) (va_recv hK.1 (P_split hB).2 (ci := 4) (q0 := 0) rfl rfl)) rfl rfl hl.1 rfl (lv_room (Nat.le_of_ble_eq_true rfl)) dL_law_964 ⟨hce, hsl⟩) hS (fun q _ h => jw_free hD1 q h) (jw_free hD1) (fun r2 w2 t9 H2 locs ht hvm hr2 hB2 hz1 hk1 hS => ?_)
  replace hB2 : va_P G.1 lzC (JW G ad w2) t9.heap := hB2
  rw [ht] at hB2
  have hD2 := jw_D w2 hD1
  obtain ⟨hrr, hR2⟩ := hn2 r2 w2 hr2
  clear ht hvm hz1 hk1 hB hD1 hc2 hn2
  refine lv_icmp_eq (tgt := 1382) hx hb dL_law_967 (by decide) (fun c_1 => ?_) (fun c_1 => absurd hrr c_1)
  exact kk w2 H2 locs hR2 hB2 hD2 hS
end LC1
