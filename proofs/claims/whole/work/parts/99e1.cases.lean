section LC0
variable {p : Program} {e : Env} {s : State} {m : MethodId} {below : List Frame} {meth : Method} {c : Code} {l : Launch} {b L : Nat} {xs : Nat → Int32} {G : lzG} {ad : Nat → Nat → Nat → Nat} {aK aV cells slots : Nat} {Q : State → Prop}
set_option maxHeartbeats 1000000 in
set_option maxRecDepth 100000 in
theorem lc_row (hx : p.tables.exec = Jvm.exec) (hb : c.code = cL_law) (hml : c.maxLocals = 4) (hown : s.vm.findClass RL = some m.cls) (hts : ∀ w ∈ wsL_law, w.before #[Value.ref b] s = true) (hX : va_X b L xs s s.heap) (hbl : b < s.heap.size) (hL : L ≤ 384) (hce : cells ≤ 600000) (hsl : slots ≤ 7302249) (hK : lzK G s) (hSt : lzStr aK aV (fun q => s.heap.size ≤ q) s s.heap) {w : lzSx × lzSm} (hR : RelS w) {i : Nat} (hi : i + 6 ≤ L) {H : Heap} {locs : List Loc} {ls : Array Slot} (hl : lv_has ls 4 [(3, .int (nI i)), (2, .ref (ad 11 0 0)), (1, .ref (ad 0 0 0)), (0, .ref b)]) (hP : va_P G.1 lzC (JW G ad w) H) (hD : va_D (fun q => s.heap.size ≤ q) (JW G ad w)) (hS : va_S (fun q => s.heap.size ≤ q) s.heap H locs)
    (kk : ∀ (w2 : lzSx × lzSm) (H2 : Heap) (locs2 : List Loc), RelS w2 → va_P G.1 lzC (JW G ad w2) H2 → va_D (fun q => s.heap.size ≤ q) (JW G ad w2) → va_S (fun q => s.heap.size ≤ q) s.heap H2 locs2 → W p l e room_1 s m #[Value.ref b] below meth c H2 locs2 cells slots Q (F0 m 1382 ls [])) : W p l e room_1 s m #[Value.ref b] below meth c H locs cells slots Q (F0 m 204 ls []) := by
  have hbA : ¬ (fun q => s.heap.size ≤ q) b := Nat.not_le.mpr hbl
  obtain ⟨⟨C, it, F, FS, RS, RF, MD, MF, cs⟩, B, wy⟩ := w
  refine lv_aload_n hx hb dL_law_204 rfl (lv_at hl 2 rfl) ?_
  refine lv_aload_n hx hb dL_law_205 rfl (lv_at hl 3 rfl) ?_
  refine lv_iload_n hx hb dL_law_206 rfl (lv_at hl 0 rfl) ?_
  refine lv_iconst (v := 1) hx hb dL_law_207 (by decide) ?_
  refine lv_iadd hx hb dL_law_208 ?_
  refine lz_top (y := nI (i + 1)) (by simp only [fa_lit, nI_add]) ?_
  refine va_sld hx hb hX hbl hbA hS (vp_in_nI (by omega) (by omega)) dL_law_209 ?_
  refine lv_aload_n hx hb dL_law_210 rfl (lv_at hl 3 rfl) ?_
  refine lv_iload_n hx hb dL_law_211 rfl (lv_at hl 0 rfl) ?_
  refine lv_iconst (v := 2) hx hb dL_law_212 (by decide) ?_
  refine lv_iadd hx hb dL_law_213 ?_
  refine lz_top (y := nI (i + 2)) (by simp only [fa_lit, nI_add]) ?_
  refine va_sld hx hb hX hbl hbA hS (vp_in_nI (by omega) (by omega)) dL_law_214 ?_
  refine lv_aload_n hx hb dL_law_215 rfl (lv_at hl 3 rfl) ?_
  refine lv_iload_n hx hb dL_law_216 rfl (lv_at hl 0 rfl) ?_
  refine lv_iconst (v := 3) hx hb dL_law_217 (by decide) ?_
  refine lv_iadd hx hb dL_law_218 ?_
  refine lz_top (y := nI (i + 3)) (by simp only [fa_lit, nI_add]) ?_
  refine va_sld hx hb hX hbl hbA hS (vp_in_nI (by omega) (by omega)) dL_law_219 ?_
  obtain ⟨P9, hc1, hn1⟩ : stepJ l G ad aK aV yX3_row wsX3_row yX4_row wsX4_row [.int (xs (nI (i + 1)).toNatClampNeg), .int (xs (nI (i + 2)).toNatClampNeg), .int (xs (nI (i + 3)).toNatClampNeg)] ((C, it, F, FS, RS, RF, MD, MF, cs), (B, wy)) := stepJ_of _ (st_row hR (xs (nI (i + 1)).toNatClampNeg) (xs (nI (i + 2)).toNatClampNeg) (xs (nI (i + 3)).toNatClampNeg))
  refine va_calli (va_runV (As := [.int (xs (nI (i + 1)).toNatClampNeg), .int (xs (nI (i + 2)).toNatClampNeg), .int (xs (nI (i + 3)).toNatClampNeg)]) (rest := []) ⟨hx, hb, hml, hown, hts⟩ hc1 (cwV 3 hts gL_law_X3_row rfl rfl rfl (by decide +kernel) ⟨(Nat.le_of_ble_eq_true rfl), (Nat.le_of_ble_eq_true rfl)⟩) (rws_preV hK hP hD hSt hS (jw_free hD) (va_recv hK.1 hP (ci := 3) (q0 := 0) rfl rfl)) rfl rfl hl.1 rfl (lv_room (Nat.le_of_ble_eq_true rfl)) dL_law_220 ⟨hce, hsl⟩) hS (fun q _ h => jw_free hD q h) (jw_free hD) (fun r1 w1 t9 H1 locs ht hvm hr1 hB hz1 hk1 hS => ?_)
  replace hB : va_P G.1 lzC (JW G ad w1) t9.heap := hB
  rw [ht] at hB
  have hD1 := jw_D w1 hD
  obtain ⟨Q9, hc2, hn2⟩ := hn1 r1 w1 hr1
  clear ht hvm hz1 hk1 hP hD hc1 hn1
  refine lv_aload_n hx hb dL_law_223 rfl (lv_at hl 1 rfl) ?_
  refine lv_aload_n hx hb dL_law_224 rfl (lv_at hl 3 rfl) ?_
  refine lv_iload_n hx hb dL_law_225 rfl (lv_at hl 0 rfl) ?_
  refine lv_iconst (v := 1) hx hb dL_law_226 (by decide) ?_
  refine lv_iadd hx hb dL_law_227 ?_
  refine lz_top (y := nI (i + 1)) (by simp only [fa_lit, nI_add]) ?_
  refine va_sld hx hb hX hbl hbA hS (vp_in_nI (by omega) (by omega)) dL_law_228 ?_
  refine lv_aload_n hx hb dL_law_229 rfl (lv_at hl 3 rfl) ?_
  refine lv_iload_n hx hb dL_law_230 rfl (lv_at hl 0 rfl) ?_
  refine lv_iconst (v := 2) hx hb dL_law_231 (by decide) ?_
  refine lv_iadd hx hb dL_law_232 ?_
  refine lz_top (y := nI (i + 2)) (by simp only [fa_lit, nI_add]) ?_
  refine va_sld hx hb hX hbl hbA hS (vp_in_nI (by omega) (by omega)) dL_law_233 ?_
  refine lv_aload_n hx hb dL_law_234 rfl (lv_at hl 3 rfl) ?_
  refine lv_iload_n hx hb dL_law_235 rfl (lv_at hl 0 rfl) ?_
  refine lv_iconst (v := 3) hx hb dL_law_236 (by decide) ?_
  refine lv_iadd hx hb dL_law_237 ?_
  refine lz_top (y := nI (i + 3)) (by simp only [fa_lit, nI_add]) ?_
  refine va_sld hx hb hX hbl hbA hS (vp_in_nI (by omega) (by omega)) dL_law_238 ?_
  refine va_calli (va_runV (As := [.int (xs (nI (i + 1)).toNatClampNeg), .int (xs (nI (i + 2)).toNatClampNeg), .int (xs (nI (i + 3)).toNatClampNeg)]) (rest := [.int r1]) ⟨hx, hb, hml, hown, hts⟩ hc2 (cwV 3 hts gL_law_X4_row rfl rfl rfl (by decide +kernel) ⟨(Nat.le_of_ble_eq_true rfl), (Nat.le_of_ble_eq_true rfl)⟩) (rws_preV hK hB hD1 hSt hS (jw_free hD1) (va_recv hK.1 (P_split hB).2 (ci := 4) (q0 := 0) rfl rfl)) rfl rfl hl.1 rfl (lv_room (Nat.le_of_ble_eq_true rfl)) dL_law_239 ⟨hce, hsl⟩) hS (fun q _ h => jw_free hD1 q h) (jw_free hD1) (fun r2 w2 t9 H2 locs ht hvm hr2 hB2 hz1 hk1 hS => ?_)
  replace hB2 : va_P G.1 lzC (JW G ad w2) t9.heap := hB2
  rw [ht] at hB2
  have hD2 := jw_D w2 hD1
  obtain ⟨hrr, hR2⟩ := hn2 r2 w2 hr2
  clear ht hvm hz1 hk1 hB hD1 hc2 hn2
  refine lv_icmp_eq (tgt := 1382) hx hb dL_law_242 (by decide) (fun c_1 => ?_) (fun c_1 => absurd hrr c_1)
  exact kk w2 H2 locs hR2 hB2 hD2 hS

set_option maxHeartbeats 1000000 in
set_option maxRecDepth 100000 in
theorem lc_set (hx : p.tables.exec = Jvm.exec) (hb : c.code = cL_law) (hml : c.maxLocals = 4) (hown : s.vm.findClass RL = some m.cls) (hts : ∀ w ∈ wsL_law, w.before #[Value.ref b] s = true) (hX : va_X b L xs s s.heap) (hbl : b < s.heap.size) (hL : L ≤ 384) (hce : cells ≤ 600000) (hsl : slots ≤ 7302249) (hK : lzK G s) (hSt : lzStr aK aV (fun q => s.heap.size ≤ q) s s.heap) {w : lzSx × lzSm} (hR : RelS w) {i : Nat} (hi : i + 6 ≤ L) {H : Heap} {locs : List Loc} {ls : Array Slot} (hl : lv_has ls 4 [(3, .int (nI i)), (2, .ref (ad 11 0 0)), (1, .ref (ad 0 0 0)), (0, .ref b)]) (hP : va_P G.1 lzC (JW G ad w) H) (hD : va_D (fun q => s.heap.size ≤ q) (JW G ad w)) (hS : va_S (fun q => s.heap.size ≤ q) s.heap H locs)
    (kk : ∀ (w2 : lzSx × lzSm) (H2 : Heap) (locs2 : List Loc), RelS w2 → va_P G.1 lzC (JW G ad w2) H2 → va_D (fun q => s.heap.size ≤ q) (JW G ad w2) → va_S (fun q => s.heap.size ≤ q) s.heap H2 locs2 → W p l e room_1 s m #[Value.ref b] below meth c H2 locs2 cells slots Q (F0 m 1382 ls [])) : W p l e room_1 s m #[Value.ref b] below meth c H locs cells slots Q (F0 m 247 ls []) := by
  have hbA : ¬ (fun q => s.heap.size ≤ q) b := Nat.not_le.mpr hbl
  obtain ⟨⟨C, it, F, FS, RS, RF, MD, MF, cs⟩, B, wy⟩ := w
  refine lv_aload_n hx hb dL_law_247 rfl (lv_at hl 2 rfl) ?_
  refine lv_aload_n hx hb dL_law_248 rfl (lv_at hl 3 rfl) ?_
  refine lv_iload_n hx hb dL_law_249 rfl (lv_at hl 0 rfl) ?_
  refine lv_iconst (v := 1) hx hb dL_law_250 (by decide) ?_
  refine lv_iadd hx hb dL_law_251 ?_
  refine lz_top (y := nI (i + 1)) (by simp only [fa_lit, nI_add]) ?_
  refine va_sld hx hb hX hbl hbA hS (vp_in_nI (by omega) (by omega)) dL_law_252 ?_
  refine lv_aload_n hx hb dL_law_253 rfl (lv_at hl 3 rfl) ?_
  refine lv_iload_n hx hb dL_law_254 rfl (lv_at hl 0 rfl) ?_
  refine lv_iconst (v := 2) hx hb dL_law_255 (by decide) ?_
  refine lv_iadd hx hb dL_law_256 ?_
  refine lz_top (y := nI (i + 2)) (by simp only [fa_lit, nI_add]) ?_
  refine va_sld hx hb hX hbl hbA hS (vp_in_nI (by omega) (by omega)) dL_law_257 ?_
  refine lv_aload_n hx hb dL_law_258 rfl (lv_at hl 3 rfl) ?_
  refine lv_iload_n hx hb dL_law_259 rfl (lv_at hl 0 rfl) ?_
  refine lv_iconst (v := 3) hx hb dL_law_260 (by decide) ?_
  refine lv_iadd hx hb dL_law_261 ?_
  refine lz_top (y := nI (i + 3)) (by simp only [fa_lit, nI_add]) ?_
  refine va_sld hx hb hX hbl hbA hS (vp_in_nI (by omega) (by omega)) dL_law_262 ?_
  obtain ⟨P9, hc1, hn1⟩ : stepJ l G ad aK aV yX3_set wsX3_set yX4_set wsX4_set [.int (xs (nI (i + 1)).toNatClampNeg), .int (xs (nI (i + 2)).toNatClampNeg), .int (xs (nI (i + 3)).toNatClampNeg)] ((C, it, F, FS, RS, RF, MD, MF, cs), (B, wy)) := stepJ_of _ (st_set hR (xs (nI (i + 1)).toNatClampNeg) (xs (nI (i + 2)).toNatClampNeg) (xs (nI (i + 3)).toNatClampNeg))
  refine va_calli (va_runV (As := [.int (xs (nI (i + 1)).toNatClampNeg), .int (xs (nI (i + 2)).toNatClampNeg), .int (xs (nI (i + 3)).toNatClampNeg)]) (rest := []) ⟨hx, hb, hml, hown, hts⟩ hc1 (cwV 3 hts gL_law_X3_set rfl rfl rfl (by decide +kernel) ⟨(Nat.le_of_ble_eq_true rfl), (Nat.le_of_ble_eq_true rfl)⟩) (rws_preV hK hP hD hSt hS (jw_free hD) (va_recv hK.1 hP (ci := 3) (q0 := 0) rfl rfl)) rfl rfl hl.1 rfl (lv_room (Nat.le_of_ble_eq_true rfl)) dL_law_263 ⟨hce, hsl⟩) hS (fun q _ h => jw_free hD q h) (jw_free hD) (fun r1 w1 t9 H1 locs ht hvm hr1 hB hz1 hk1 hS => ?_)
  replace hB : va_P G.1 lzC (JW G ad w1) t9.heap := hB
  rw [ht] at hB
  have hD1 := jw_D w1 hD
  obtain ⟨Q9, hc2, hn2⟩ := hn1 r1 w1 hr1
  clear ht hvm hz1 hk1 hP hD hc1 hn1
  refine lv_aload_n hx hb dL_law_266 rfl (lv_at hl 1 rfl) ?_
  refine lv_aload_n hx hb dL_law_267 rfl (lv_at hl 3 rfl) ?_
  refine lv_iload_n hx hb dL_law_268 rfl (lv_at hl 0 rfl) ?_
  refine lv_iconst (v := 1) hx hb dL_law_269 (by decide) ?_
  refine lv_iadd hx hb dL_law_270 ?_
  refine lz_top (y := nI (i + 1)) (by simp only [fa_lit, nI_add]) ?_
  refine va_sld hx hb hX hbl hbA hS (vp_in_nI (by omega) (by omega)) dL_law_271 ?_
  refine lv_aload_n hx hb dL_law_272 rfl (lv_at hl 3 rfl) ?_
  refine lv_iload_n hx hb dL_law_273 rfl (lv_at hl 0 rfl) ?_
  refine lv_iconst (v := 2) hx hb dL_law_274 (by decide) ?_
  refine lv_iadd hx hb dL_law_275 ?_
  refine lz_top (y := nI (i + 2)) (by simp only [fa_lit, nI_add]) ?_
  refine va_sld hx hb hX hbl hbA hS (vp_in_nI (by omega) (by omega)) dL_law_276 ?_
  refine lv_aload_n hx hb dL_law_277 rfl (lv_at hl 3 rfl) ?_
  refine lv_iload_n hx hb dL_law_278 rfl (lv_at hl 0 rfl) ?_
  refine lv_iconst (v := 3) hx hb dL_law_279 (by decide) ?_
  refine lv_iadd hx hb dL_law_280 ?_
  refine lz_top (y := nI (i + 3)) (by simp only [fa_lit, nI_add]) ?_
  refine va_sld hx hb hX hbl hbA hS (vp_in_nI (by omega) (by omega)) dL_law_281 ?_
  refine va_calli (va_runV (As := [.int (xs (nI (i + 1)).toNatClampNeg), .int (xs (nI (i + 2)).toNatClampNeg), .int (xs (nI (i + 3)).toNatClampNeg)]) (rest := [.int r1]) ⟨hx, hb, hml, hown, hts⟩ hc2 (cwV 3 hts gL_law_X4_set rfl rfl rfl (by decide +kernel) ⟨(Nat.le_of_ble_eq_true rfl), (Nat.le_of_ble_eq_true rfl)⟩) (rws_preV hK hB hD1 hSt hS (jw_free hD1) (va_recv hK.1 (P_split hB).2 (ci := 4) (q0 := 0) rfl rfl)) rfl rfl hl.1 rfl (lv_room (Nat.le_of_ble_eq_true rfl)) dL_law_282 ⟨hce, hsl⟩) hS (fun q _ h => jw_free hD1 q h) (jw_free hD1) (fun r2 w2 t9 H2 locs ht hvm hr2 hB2 hz1 hk1 hS => ?_)
  replace hB2 : va_P G.1 lzC (JW G ad w2) t9.heap := hB2
  rw [ht] at hB2
  have hD2 := jw_D w2 hD1
  obtain ⟨hrr, hR2⟩ := hn2 r2 w2 hr2
  clear ht hvm hz1 hk1 hB hD1 hc2 hn2
  refine lv_icmp_eq (tgt := 1382) hx hb dL_law_285 (by decide) (fun c_1 => ?_) (fun c_1 => absurd hrr c_1)
  exact kk w2 H2 locs hR2 hB2 hD2 hS

set_option maxHeartbeats 1000000 in
set_option maxRecDepth 100000 in
theorem lc_copy (hx : p.tables.exec = Jvm.exec) (hb : c.code = cL_law) (hml : c.maxLocals = 4) (hown : s.vm.findClass RL = some m.cls) (hts : ∀ w ∈ wsL_law, w.before #[Value.ref b] s = true) (hX : va_X b L xs s s.heap) (hbl : b < s.heap.size) (hL : L ≤ 384) (hce : cells ≤ 600000) (hsl : slots ≤ 7302249) (hK : lzK G s) (hSt : lzStr aK aV (fun q => s.heap.size ≤ q) s s.heap) {w : lzSx × lzSm} (hR : RelS w) {i : Nat} (hi : i + 6 ≤ L) {H : Heap} {locs : List Loc} {ls : Array Slot} (hl : lv_has ls 4 [(3, .int (nI i)), (2, .ref (ad 11 0 0)), (1, .ref (ad 0 0 0)), (0, .ref b)]) (hP : va_P G.1 lzC (JW G ad w) H) (hD : va_D (fun q => s.heap.size ≤ q) (JW G ad w)) (hS : va_S (fun q => s.heap.size ≤ q) s.heap H locs)
    (kk : ∀ (w2 : lzSx × lzSm) (H2 : Heap) (locs2 : List Loc), RelS w2 → va_P G.1 lzC (JW G ad w2) H2 → va_D (fun q => s.heap.size ≤ q) (JW G ad w2) → va_S (fun q => s.heap.size ≤ q) s.heap H2 locs2 → W p l e room_1 s m #[Value.ref b] below meth c H2 locs2 cells slots Q (F0 m 1382 ls [])) : W p l e room_1 s m #[Value.ref b] below meth c H locs cells slots Q (F0 m 290 ls []) := by
  have hbA : ¬ (fun q => s.heap.size ≤ q) b := Nat.not_le.mpr hbl
  obtain ⟨⟨C, it, F, FS, RS, RF, MD, MF, cs⟩, B, wy⟩ := w
  refine lv_aload_n hx hb dL_law_290 rfl (lv_at hl 2 rfl) ?_
  refine lv_aload_n hx hb dL_law_291 rfl (lv_at hl 3 rfl) ?_
  refine lv_iload_n hx hb dL_law_292 rfl (lv_at hl 0 rfl) ?_
  refine lv_iconst (v := 1) hx hb dL_law_293 (by decide) ?_
  refine lv_iadd hx hb dL_law_294 ?_
  refine lz_top (y := nI (i + 1)) (by simp only [fa_lit, nI_add]) ?_
  refine va_sld hx hb hX hbl hbA hS (vp_in_nI (by omega) (by omega)) dL_law_295 ?_
  refine lv_aload_n hx hb dL_law_296 rfl (lv_at hl 3 rfl) ?_
  refine lv_iload_n hx hb dL_law_297 rfl (lv_at hl 0 rfl) ?_
  refine lv_iconst (v := 2) hx hb dL_law_298 (by decide) ?_
  refine lv_iadd hx hb dL_law_299 ?_
  refine lz_top (y := nI (i + 2)) (by simp only [fa_lit, nI_add]) ?_
  refine va_sld hx hb hX hbl hbA hS (vp_in_nI (by omega) (by omega)) dL_law_300 ?_
  refine lv_aload_n hx hb dL_law_301 rfl (lv_at hl 3 rfl) ?_
  refine lv_iload_n hx hb dL_law_302 rfl (lv_at hl 0 rfl) ?_
  refine lv_iconst (v := 3) hx hb dL_law_303 (by decide) ?_
  refine lv_iadd hx hb dL_law_304 ?_
  refine lz_top (y := nI (i + 3)) (by simp only [fa_lit, nI_add]) ?_
  refine va_sld hx hb hX hbl hbA hS (vp_in_nI (by omega) (by omega)) dL_law_305 ?_
  refine lv_aload_n hx hb dL_law_306 rfl (lv_at hl 3 rfl) ?_
  refine lv_iload_n hx hb dL_law_307 rfl (lv_at hl 0 rfl) ?_
  refine lv_iconst (v := 4) hx hb dL_law_308 (by decide) ?_
  refine lv_iadd hx hb dL_law_309 ?_
  refine lz_top (y := nI (i + 4)) (by simp only [fa_lit, nI_add]) ?_
  refine va_sld hx hb hX hbl hbA hS (vp_in_nI (by omega) (by omega)) dL_law_310 ?_
  refine lv_aload_n hx hb dL_law_311 rfl (lv_at hl 3 rfl) ?_
  refine lv_iload_n hx hb dL_law_312 rfl (lv_at hl 0 rfl) ?_
  refine lv_iconst (v := 5) hx hb dL_law_313 (by decide) ?_
  refine lv_iadd hx hb dL_law_314 ?_
  refine lz_top (y := nI (i + 5)) (by simp only [fa_lit, nI_add]) ?_
  refine va_sld hx hb hX hbl hbA hS (vp_in_nI (by omega) (by omega)) dL_law_315 ?_
  obtain ⟨P9, hc1, hn1⟩ : stepJ l G ad aK aV yX3_copy wsX3_copy yX4_copy wsX4_copy [.int (xs (nI (i + 1)).toNatClampNeg), .int (xs (nI (i + 2)).toNatClampNeg), .int (xs (nI (i + 3)).toNatClampNeg), .int (xs (nI (i + 4)).toNatClampNeg), .int (xs (nI (i + 5)).toNatClampNeg)] ((C, it, F, FS, RS, RF, MD, MF, cs), (B, wy)) := stepJ_of _ (st_copy hR (xs (nI (i + 1)).toNatClampNeg) (xs (nI (i + 2)).toNatClampNeg) (xs (nI (i + 3)).toNatClampNeg) (xs (nI (i + 4)).toNatClampNeg) (xs (nI (i + 5)).toNatClampNeg))
  refine va_calli (va_runV (As := [.int (xs (nI (i + 1)).toNatClampNeg), .int (xs (nI (i + 2)).toNatClampNeg), .int (xs (nI (i + 3)).toNatClampNeg), .int (xs (nI (i + 4)).toNatClampNeg), .int (xs (nI (i + 5)).toNatClampNeg)]) (rest := []) ⟨hx, hb, hml, hown, hts⟩ hc1 (cwV 5 hts gL_law_X3_copy rfl rfl rfl (by decide +kernel) ⟨(Nat.le_of_ble_eq_true rfl), (Nat.le_of_ble_eq_true rfl)⟩) (rws_preV hK hP hD hSt hS (jw_free hD) (va_recv hK.1 hP (ci := 3) (q0 := 0) rfl rfl)) rfl rfl hl.1 rfl (lv_room (Nat.le_of_ble_eq_true rfl)) dL_law_316 ⟨hce, hsl⟩) hS (fun q _ h => jw_free hD q h) (jw_free hD) (fun r1 w1 t9 H1 locs ht hvm hr1 hB hz1 hk1 hS => ?_)
  replace hB : va_P G.1 lzC (JW G ad w1) t9.heap := hB
  rw [ht] at hB
  have hD1 := jw_D w1 hD
  obtain ⟨Q9, hc2, hn2⟩ := hn1 r1 w1 hr1
  clear ht hvm hz1 hk1 hP hD hc1 hn1
  refine lv_aload_n hx hb dL_law_319 rfl (lv_at hl 1 rfl) ?_
  refine lv_aload_n hx hb dL_law_320 rfl (lv_at hl 3 rfl) ?_
  refine lv_iload_n hx hb dL_law_321 rfl (lv_at hl 0 rfl) ?_
  refine lv_iconst (v := 1) hx hb dL_law_322 (by decide) ?_
  refine lv_iadd hx hb dL_law_323 ?_
  refine lz_top (y := nI (i + 1)) (by simp only [fa_lit, nI_add]) ?_
  refine va_sld hx hb hX hbl hbA hS (vp_in_nI (by omega) (by omega)) dL_law_324 ?_
  refine lv_aload_n hx hb dL_law_325 rfl (lv_at hl 3 rfl) ?_
  refine lv_iload_n hx hb dL_law_326 rfl (lv_at hl 0 rfl) ?_
  refine lv_iconst (v := 2) hx hb dL_law_327 (by decide) ?_
  refine lv_iadd hx hb dL_law_328 ?_
  refine lz_top (y := nI (i + 2)) (by simp only [fa_lit, nI_add]) ?_
  refine va_sld hx hb hX hbl hbA hS (vp_in_nI (by omega) (by omega)) dL_law_329 ?_
  refine lv_aload_n hx hb dL_law_330 rfl (lv_at hl 3 rfl) ?_
  refine lv_iload_n hx hb dL_law_331 rfl (lv_at hl 0 rfl) ?_
  refine lv_iconst (v := 3) hx hb dL_law_332 (by decide) ?_
  refine lv_iadd hx hb dL_law_333 ?_
  refine lz_top (y := nI (i + 3)) (by simp only [fa_lit, nI_add]) ?_
  refine va_sld hx hb hX hbl hbA hS (vp_in_nI (by omega) (by omega)) dL_law_334 ?_
  refine lv_aload_n hx hb dL_law_335 rfl (lv_at hl 3 rfl) ?_
  refine lv_iload_n hx hb dL_law_336 rfl (lv_at hl 0 rfl) ?_
  refine lv_iconst (v := 4) hx hb dL_law_337 (by decide) ?_
  refine lv_iadd hx hb dL_law_338 ?_
  refine lz_top (y := nI (i + 4)) (by simp only [fa_lit, nI_add]) ?_
  refine va_sld hx hb hX hbl hbA hS (vp_in_nI (by omega) (by omega)) dL_law_339 ?_
  refine lv_aload_n hx hb dL_law_340 rfl (lv_at hl 3 rfl) ?_
  refine lv_iload_n hx hb dL_law_341 rfl (lv_at hl 0 rfl) ?_
  refine lv_iconst (v := 5) hx hb dL_law_342 (by decide) ?_
  refine lv_iadd hx hb dL_law_343 ?_
  refine lz_top (y := nI (i + 5)) (by simp only [fa_lit, nI_add]) ?_
  refine va_sld hx hb hX hbl hbA hS (vp_in_nI (by omega) (by omega)) dL_law_344 ?_
  refine va_calli (va_runV (As := [.int (xs (nI (i + 1)).toNatClampNeg), .int (xs (nI (i + 2)).toNatClampNeg), .int (xs (nI (i + 3)).toNatClampNeg), .int (xs (nI (i + 4)).toNatClampNeg), .int (xs (nI (i + 5)).toNatClampNeg)]) (rest := [.int r1]) ⟨hx, hb, hml, hown, hts⟩ hc2 (cwV 5 hts gL_law_X4_copy rfl rfl rfl (by decide +kernel) ⟨(Nat.le_of_ble_eq_true rfl), (Nat.le_of_ble_eq_true rfl)⟩) (rws_preV hK hB hD1 hSt hS (jw_free hD1) (va_recv hK.1 (P_split hB).2 (ci := 4) (q0 := 0) rfl rfl)) rfl rfl hl.1 rfl (lv_room (Nat.le_of_ble_eq_true rfl)) dL_law_345 ⟨hce, hsl⟩) hS (fun q _ h => jw_free hD1 q h) (jw_free hD1) (fun r2 w2 t9 H2 locs ht hvm hr2 hB2 hz1 hk1 hS => ?_)
  replace hB2 : va_P G.1 lzC (JW G ad w2) t9.heap := hB2
  rw [ht] at hB2
  have hD2 := jw_D w2 hD1
  obtain ⟨hrr, hR2⟩ := hn2 r2 w2 hr2
  clear ht hvm hz1 hk1 hB hD1 hc2 hn2
  refine lv_icmp_eq (tgt := 1382) hx hb dL_law_348 (by decide) (fun c_1 => ?_) (fun c_1 => absurd hrr c_1)
  exact kk w2 H2 locs hR2 hB2 hD2 hS

set_option maxHeartbeats 1000000 in
set_option maxRecDepth 100000 in
theorem lc_drop (hx : p.tables.exec = Jvm.exec) (hb : c.code = cL_law) (hml : c.maxLocals = 4) (hown : s.vm.findClass RL = some m.cls) (hts : ∀ w ∈ wsL_law, w.before #[Value.ref b] s = true) (hX : va_X b L xs s s.heap) (hbl : b < s.heap.size) (hL : L ≤ 384) (hce : cells ≤ 600000) (hsl : slots ≤ 7302249) (hK : lzK G s) (hSt : lzStr aK aV (fun q => s.heap.size ≤ q) s s.heap) {w : lzSx × lzSm} (hR : RelS w) {i : Nat} (hi : i + 6 ≤ L) {H : Heap} {locs : List Loc} {ls : Array Slot} (hl : lv_has ls 4 [(3, .int (nI i)), (2, .ref (ad 11 0 0)), (1, .ref (ad 0 0 0)), (0, .ref b)]) (hP : va_P G.1 lzC (JW G ad w) H) (hD : va_D (fun q => s.heap.size ≤ q) (JW G ad w)) (hS : va_S (fun q => s.heap.size ≤ q) s.heap H locs)
    (kk : ∀ (w2 : lzSx × lzSm) (H2 : Heap) (locs2 : List Loc), RelS w2 → va_P G.1 lzC (JW G ad w2) H2 → va_D (fun q => s.heap.size ≤ q) (JW G ad w2) → va_S (fun q => s.heap.size ≤ q) s.heap H2 locs2 → W p l e room_1 s m #[Value.ref b] below meth c H2 locs2 cells slots Q (F0 m 1382 ls [])) : W p l e room_1 s m #[Value.ref b] below meth c H locs cells slots Q (F0 m 353 ls []) := by
  have hbA : ¬ (fun q => s.heap.size ≤ q) b := Nat.not_le.mpr hbl
  obtain ⟨⟨C, it, F, FS, RS, RF, MD, MF, cs⟩, B, wy⟩ := w
  refine lv_aload_n hx hb dL_law_353 rfl (lv_at hl 2 rfl) ?_
  refine lv_aload_n hx hb dL_law_354 rfl (lv_at hl 3 rfl) ?_
  refine lv_iload_n hx hb dL_law_355 rfl (lv_at hl 0 rfl) ?_
  refine lv_iconst (v := 1) hx hb dL_law_356 (by decide) ?_
  refine lv_iadd hx hb dL_law_357 ?_
  refine lz_top (y := nI (i + 1)) (by simp only [fa_lit, nI_add]) ?_
  refine va_sld hx hb hX hbl hbA hS (vp_in_nI (by omega) (by omega)) dL_law_358 ?_
  obtain ⟨P9, hc1, hn1⟩ : stepJ l G ad aK aV yX3_drop wsX3_drop yX4_drop wsX4_drop [.int (xs (nI (i + 1)).toNatClampNeg)] ((C, it, F, FS, RS, RF, MD, MF, cs), (B, wy)) := stepJ_of _ (st_drop hR (xs (nI (i + 1)).toNatClampNeg))
  refine va_calli (va_runV (As := [.int (xs (nI (i + 1)).toNatClampNeg)]) (rest := []) ⟨hx, hb, hml, hown, hts⟩ hc1 (cwV 1 hts gL_law_X3_drop rfl rfl rfl (by decide +kernel) ⟨(Nat.le_of_ble_eq_true rfl), (Nat.le_of_ble_eq_true rfl)⟩) (rws_preV hK hP hD hSt hS (jw_free hD) (va_recv hK.1 hP (ci := 3) (q0 := 0) rfl rfl)) rfl rfl hl.1 rfl (lv_room (Nat.le_of_ble_eq_true rfl)) dL_law_359 ⟨hce, hsl⟩) hS (fun q _ h => jw_free hD q h) (jw_free hD) (fun r1 w1 t9 H1 locs ht hvm hr1 hB hz1 hk1 hS => ?_)
  replace hB : va_P G.1 lzC (JW G ad w1) t9.heap := hB
  rw [ht] at hB
  have hD1 := jw_D w1 hD
  obtain ⟨Q9, hc2, hn2⟩ := hn1 r1 w1 hr1
  clear ht hvm hz1 hk1 hP hD hc1 hn1
  refine lv_aload_n hx hb dL_law_362 rfl (lv_at hl 1 rfl) ?_
  refine lv_aload_n hx hb dL_law_363 rfl (lv_at hl 3 rfl) ?_
  refine lv_iload_n hx hb dL_law_364 rfl (lv_at hl 0 rfl) ?_
  refine lv_iconst (v := 1) hx hb dL_law_365 (by decide) ?_
  refine lv_iadd hx hb dL_law_366 ?_
  refine lz_top (y := nI (i + 1)) (by simp only [fa_lit, nI_add]) ?_
  refine va_sld hx hb hX hbl hbA hS (vp_in_nI (by omega) (by omega)) dL_law_367 ?_
  refine va_calli (va_runV (As := [.int (xs (nI (i + 1)).toNatClampNeg)]) (rest := [.int r1]) ⟨hx, hb, hml, hown, hts⟩ hc2 (cwV 1 hts gL_law_X4_drop rfl rfl rfl (by decide +kernel) ⟨(Nat.le_of_ble_eq_true rfl), (Nat.le_of_ble_eq_true rfl)⟩) (rws_preV hK hB hD1 hSt hS (jw_free hD1) (va_recv hK.1 (P_split hB).2 (ci := 4) (q0 := 0) rfl rfl)) rfl rfl hl.1 rfl (lv_room (Nat.le_of_ble_eq_true rfl)) dL_law_368 ⟨hce, hsl⟩) hS (fun q _ h => jw_free hD1 q h) (jw_free hD1) (fun r2 w2 t9 H2 locs ht hvm hr2 hB2 hz1 hk1 hS => ?_)
  replace hB2 : va_P G.1 lzC (JW G ad w2) t9.heap := hB2
  rw [ht] at hB2
  have hD2 := jw_D w2 hD1
  obtain ⟨hrr, hR2⟩ := hn2 r2 w2 hr2
  clear ht hvm hz1 hk1 hB hD1 hc2 hn2
  refine lv_icmp_eq (tgt := 1382) hx hb dL_law_371 (by decide) (fun c_1 => ?_) (fun c_1 => absurd hrr c_1)
  exact kk w2 H2 locs hR2 hB2 hD2 hS

set_option maxHeartbeats 1000000 in
set_option maxRecDepth 100000 in
theorem lc_feed (hx : p.tables.exec = Jvm.exec) (hb : c.code = cL_law) (hml : c.maxLocals = 4) (hown : s.vm.findClass RL = some m.cls) (hts : ∀ w ∈ wsL_law, w.before #[Value.ref b] s = true) (hX : va_X b L xs s s.heap) (hbl : b < s.heap.size) (hL : L ≤ 384) (hce : cells ≤ 600000) (hsl : slots ≤ 7302249) (hK : lzK G s) (hSt : lzStr aK aV (fun q => s.heap.size ≤ q) s s.heap) {w : lzSx × lzSm} (hR : RelS w) {i : Nat} (hi : i + 6 ≤ L) {H : Heap} {locs : List Loc} {ls : Array Slot} (hl : lv_has ls 4 [(3, .int (nI i)), (2, .ref (ad 11 0 0)), (1, .ref (ad 0 0 0)), (0, .ref b)]) (hP : va_P G.1 lzC (JW G ad w) H) (hD : va_D (fun q => s.heap.size ≤ q) (JW G ad w)) (hS : va_S (fun q => s.heap.size ≤ q) s.heap H locs)
    (kk : ∀ (w2 : lzSx × lzSm) (H2 : Heap) (locs2 : List Loc), RelS w2 → va_P G.1 lzC (JW G ad w2) H2 → va_D (fun q => s.heap.size ≤ q) (JW G ad w2) → va_S (fun q => s.heap.size ≤ q) s.heap H2 locs2 → W p l e room_1 s m #[Value.ref b] below meth c H2 locs2 cells slots Q (F0 m 1382 ls [])) : W p l e room_1 s m #[Value.ref b] below meth c H locs cells slots Q (F0 m 376 ls []) := by
  have hbA : ¬ (fun q => s.heap.size ≤ q) b := Nat.not_le.mpr hbl
  obtain ⟨⟨C, it, F, FS, RS, RF, MD, MF, cs⟩, B, wy⟩ := w
  refine lv_aload_n hx hb dL_law_376 rfl (lv_at hl 2 rfl) ?_
  refine lv_aload_n hx hb dL_law_377 rfl (lv_at hl 3 rfl) ?_
  refine lv_iload_n hx hb dL_law_378 rfl (lv_at hl 0 rfl) ?_
  refine lv_iconst (v := 1) hx hb dL_law_379 (by decide) ?_
  refine lv_iadd hx hb dL_law_380 ?_
  refine lz_top (y := nI (i + 1)) (by simp only [fa_lit, nI_add]) ?_
  refine va_sld hx hb hX hbl hbA hS (vp_in_nI (by omega) (by omega)) dL_law_381 ?_
  obtain ⟨P9, hc1, hn1⟩ : stepJ l G ad aK aV yX3_feed wsX3_feed yX4_feed wsX4_feed [.int (xs (nI (i + 1)).toNatClampNeg)] ((C, it, F, FS, RS, RF, MD, MF, cs), (B, wy)) := stepJ_of _ (st_feed hR (xs (nI (i + 1)).toNatClampNeg))
  refine va_calli (va_runV (As := [.int (xs (nI (i + 1)).toNatClampNeg)]) (rest := []) ⟨hx, hb, hml, hown, hts⟩ hc1 (cwV 1 hts gL_law_X3_feed rfl rfl rfl (by decide +kernel) ⟨(Nat.le_of_ble_eq_true rfl), (Nat.le_of_ble_eq_true rfl)⟩) (rws_preV hK hP hD hSt hS (jw_free hD) (va_recv hK.1 hP (ci := 3) (q0 := 0) rfl rfl)) rfl rfl hl.1 rfl (lv_room (Nat.le_of_ble_eq_true rfl)) dL_law_382 ⟨hce, hsl⟩) hS (fun q _ h => jw_free hD q h) (jw_free hD) (fun r1 w1 t9 H1 locs ht hvm hr1 hB hz1 hk1 hS => ?_)
  replace hB : va_P G.1 lzC (JW G ad w1) t9.heap := hB
  rw [ht] at hB
  have hD1 := jw_D w1 hD
  obtain ⟨Q9, hc2, hn2⟩ := hn1 r1 w1 hr1
  clear ht hvm hz1 hk1 hP hD hc1 hn1
  refine lv_aload_n hx hb dL_law_385 rfl (lv_at hl 1 rfl) ?_
  refine lv_aload_n hx hb dL_law_386 rfl (lv_at hl 3 rfl) ?_
  refine lv_iload_n hx hb dL_law_387 rfl (lv_at hl 0 rfl) ?_
  refine lv_iconst (v := 1) hx hb dL_law_388 (by decide) ?_
  refine lv_iadd hx hb dL_law_389 ?_
  refine lz_top (y := nI (i + 1)) (by simp only [fa_lit, nI_add]) ?_
  refine va_sld hx hb hX hbl hbA hS (vp_in_nI (by omega) (by omega)) dL_law_390 ?_
  refine va_calli (va_runV (As := [.int (xs (nI (i + 1)).toNatClampNeg)]) (rest := [.int r1]) ⟨hx, hb, hml, hown, hts⟩ hc2 (cwV 1 hts gL_law_X4_feed rfl rfl rfl (by decide +kernel) ⟨(Nat.le_of_ble_eq_true rfl), (Nat.le_of_ble_eq_true rfl)⟩) (rws_preV hK hB hD1 hSt hS (jw_free hD1) (va_recv hK.1 (P_split hB).2 (ci := 4) (q0 := 0) rfl rfl)) rfl rfl hl.1 rfl (lv_room (Nat.le_of_ble_eq_true rfl)) dL_law_391 ⟨hce, hsl⟩) hS (fun q _ h => jw_free hD1 q h) (jw_free hD1) (fun r2 w2 t9 H2 locs ht hvm hr2 hB2 hz1 hk1 hS => ?_)
  replace hB2 : va_P G.1 lzC (JW G ad w2) t9.heap := hB2
  rw [ht] at hB2
  have hD2 := jw_D w2 hD1
  obtain ⟨hrr, hR2⟩ := hn2 r2 w2 hr2
  clear ht hvm hz1 hk1 hB hD1 hc2 hn2
  refine lv_icmp_eq (tgt := 1382) hx hb dL_law_394 (by decide) (fun c_1 => ?_) (fun c_1 => absurd hrr c_1)
  exact kk w2 H2 locs hR2 hB2 hD2 hS

set_option maxHeartbeats 1000000 in
set_option maxRecDepth 100000 in
theorem lc_door (hx : p.tables.exec = Jvm.exec) (hb : c.code = cL_law) (hml : c.maxLocals = 4) (hown : s.vm.findClass RL = some m.cls) (hts : ∀ w ∈ wsL_law, w.before #[Value.ref b] s = true) (hX : va_X b L xs s s.heap) (hbl : b < s.heap.size) (hL : L ≤ 384) (hce : cells ≤ 600000) (hsl : slots ≤ 7302249) (hK : lzK G s) (hSt : lzStr aK aV (fun q => s.heap.size ≤ q) s s.heap) {w : lzSx × lzSm} (hR : RelS w) {i : Nat} (hi : i + 6 ≤ L) {H : Heap} {locs : List Loc} {ls : Array Slot} (hl : lv_has ls 4 [(3, .int (nI i)), (2, .ref (ad 11 0 0)), (1, .ref (ad 0 0 0)), (0, .ref b)]) (hP : va_P G.1 lzC (JW G ad w) H) (hD : va_D (fun q => s.heap.size ≤ q) (JW G ad w)) (hS : va_S (fun q => s.heap.size ≤ q) s.heap H locs)
    (kk : ∀ (w2 : lzSx × lzSm) (H2 : Heap) (locs2 : List Loc), RelS w2 → va_P G.1 lzC (JW G ad w2) H2 → va_D (fun q => s.heap.size ≤ q) (JW G ad w2) → va_S (fun q => s.heap.size ≤ q) s.heap H2 locs2 → W p l e room_1 s m #[Value.ref b] below meth c H2 locs2 cells slots Q (F0 m 1382 ls [])) : W p l e room_1 s m #[Value.ref b] below meth c H locs cells slots Q (F0 m 399 ls []) := by
  have hbA : ¬ (fun q => s.heap.size ≤ q) b := Nat.not_le.mpr hbl
  obtain ⟨⟨C, it, F, FS, RS, RF, MD, MF, cs⟩, B, wy⟩ := w
  refine lv_aload_n hx hb dL_law_399 rfl (lv_at hl 2 rfl) ?_
  obtain ⟨P9, hc1, hn1⟩ : stepJ l G ad aK aV yX3_door wsX3_door yX4_door wsX4_door [] ((C, it, F, FS, RS, RF, MD, MF, cs), (B, wy)) := st_door hR
  refine va_calli (va_runV (As := []) (rest := []) ⟨hx, hb, hml, hown, hts⟩ hc1 (cwV 0 hts gL_law_X3_door rfl rfl rfl (by decide +kernel) ⟨(Nat.le_of_ble_eq_true rfl), (Nat.le_of_ble_eq_true rfl)⟩) (rws_preV hK hP hD hSt hS (jw_free hD) (va_recv hK.1 hP (ci := 3) (q0 := 0) rfl rfl)) rfl rfl hl.1 rfl (lv_room (Nat.le_of_ble_eq_true rfl)) dL_law_400 ⟨hce, hsl⟩) hS (fun q _ h => jw_free hD q h) (jw_free hD) (fun r1 w1 t9 H1 locs ht hvm hr1 hB hz1 hk1 hS => ?_)
  replace hB : va_P G.1 lzC (JW G ad w1) t9.heap := hB
  rw [ht] at hB
  have hD1 := jw_D w1 hD
  obtain ⟨Q9, hc2, hn2⟩ := hn1 r1 w1 hr1
  clear ht hvm hz1 hk1 hP hD hc1 hn1
  refine lv_aload_n hx hb dL_law_403 rfl (lv_at hl 1 rfl) ?_
  refine va_calli (va_runV (As := []) (rest := [.int r1]) ⟨hx, hb, hml, hown, hts⟩ hc2 (cwV 0 hts gL_law_X4_door rfl rfl rfl (by decide +kernel) ⟨(Nat.le_of_ble_eq_true rfl), (Nat.le_of_ble_eq_true rfl)⟩) (rws_preV hK hB hD1 hSt hS (jw_free hD1) (va_recv hK.1 (P_split hB).2 (ci := 4) (q0 := 0) rfl rfl)) rfl rfl hl.1 rfl (lv_room (Nat.le_of_ble_eq_true rfl)) dL_law_404 ⟨hce, hsl⟩) hS (fun q _ h => jw_free hD1 q h) (jw_free hD1) (fun r2 w2 t9 H2 locs ht hvm hr2 hB2 hz1 hk1 hS => ?_)
  replace hB2 : va_P G.1 lzC (JW G ad w2) t9.heap := hB2
  rw [ht] at hB2
  have hD2 := jw_D w2 hD1
  obtain ⟨hrr, hR2⟩ := hn2 r2 w2 hr2
  clear ht hvm hz1 hk1 hB hD1 hc2 hn2
  refine lv_icmp_eq (tgt := 1382) hx hb dL_law_407 (by decide) (fun c_1 => ?_) (fun c_1 => absurd hrr c_1)
  exact kk w2 H2 locs hR2 hB2 hD2 hS

set_option maxHeartbeats 1000000 in
set_option maxRecDepth 100000 in
theorem lc_fault (hx : p.tables.exec = Jvm.exec) (hb : c.code = cL_law) (hml : c.maxLocals = 4) (hown : s.vm.findClass RL = some m.cls) (hts : ∀ w ∈ wsL_law, w.before #[Value.ref b] s = true) (hX : va_X b L xs s s.heap) (hbl : b < s.heap.size) (hL : L ≤ 384) (hce : cells ≤ 600000) (hsl : slots ≤ 7302249) (hK : lzK G s) (hSt : lzStr aK aV (fun q => s.heap.size ≤ q) s s.heap) {w : lzSx × lzSm} (hR : RelS w) {i : Nat} (hi : i + 6 ≤ L) {H : Heap} {locs : List Loc} {ls : Array Slot} (hl : lv_has ls 4 [(3, .int (nI i)), (2, .ref (ad 11 0 0)), (1, .ref (ad 0 0 0)), (0, .ref b)]) (hP : va_P G.1 lzC (JW G ad w) H) (hD : va_D (fun q => s.heap.size ≤ q) (JW G ad w)) (hS : va_S (fun q => s.heap.size ≤ q) s.heap H locs)
    (kk : ∀ (w2 : lzSx × lzSm) (H2 : Heap) (locs2 : List Loc), RelS w2 → va_P G.1 lzC (JW G ad w2) H2 → va_D (fun q => s.heap.size ≤ q) (JW G ad w2) → va_S (fun q => s.heap.size ≤ q) s.heap H2 locs2 → W p l e room_1 s m #[Value.ref b] below meth c H2 locs2 cells slots Q (F0 m 1382 ls [])) : W p l e room_1 s m #[Value.ref b] below meth c H locs cells slots Q (F0 m 412 ls []) := by
  have hbA : ¬ (fun q => s.heap.size ≤ q) b := Nat.not_le.mpr hbl
  obtain ⟨⟨C, it, F, FS, RS, RF, MD, MF, cs⟩, B, wy⟩ := w
  refine lv_aload_n hx hb dL_law_412 rfl (lv_at hl 2 rfl) ?_
  obtain ⟨P9, hc1, hn1⟩ : stepJ l G ad aK aV yX3_fault wsX3_fault yX4_fault wsX4_fault [] ((C, it, F, FS, RS, RF, MD, MF, cs), (B, wy)) := stepJ_of _ (st_fault hR)
  refine va_calli (va_runV (As := []) (rest := []) ⟨hx, hb, hml, hown, hts⟩ hc1 (cwV 0 hts gL_law_X3_fault rfl rfl rfl (by decide +kernel) ⟨(Nat.le_of_ble_eq_true rfl), (Nat.le_of_ble_eq_true rfl)⟩) (rws_preV hK hP hD hSt hS (jw_free hD) (va_recv hK.1 hP (ci := 3) (q0 := 0) rfl rfl)) rfl rfl hl.1 rfl (lv_room (Nat.le_of_ble_eq_true rfl)) dL_law_413 ⟨hce, hsl⟩) hS (fun q _ h => jw_free hD q h) (jw_free hD) (fun r1 w1 t9 H1 locs ht hvm hr1 hB hz1 hk1 hS => ?_)
  replace hB : va_P G.1 lzC (JW G ad w1) t9.heap := hB
  rw [ht] at hB
  have hD1 := jw_D w1 hD
  obtain ⟨Q9, hc2, hn2⟩ := hn1 r1 w1 hr1
  clear ht hvm hz1 hk1 hP hD hc1 hn1
  refine lv_aload_n hx hb dL_law_416 rfl (lv_at hl 1 rfl) ?_
  refine va_calli (va_runV (As := []) (rest := [.int r1]) ⟨hx, hb, hml, hown, hts⟩ hc2 (cwV 0 hts gL_law_X4_fault rfl rfl rfl (by decide +kernel) ⟨(Nat.le_of_ble_eq_true rfl), (Nat.le_of_ble_eq_true rfl)⟩) (rws_preV hK hB hD1 hSt hS (jw_free hD1) (va_recv hK.1 (P_split hB).2 (ci := 4) (q0 := 0) rfl rfl)) rfl rfl hl.1 rfl (lv_room (Nat.le_of_ble_eq_true rfl)) dL_law_417 ⟨hce, hsl⟩) hS (fun q _ h => jw_free hD1 q h) (jw_free hD1) (fun r2 w2 t9 H2 locs ht hvm hr2 hB2 hz1 hk1 hS => ?_)
  replace hB2 : va_P G.1 lzC (JW G ad w2) t9.heap := hB2
  rw [ht] at hB2
  have hD2 := jw_D w2 hD1
  obtain ⟨hrr, hR2⟩ := hn2 r2 w2 hr2
  clear ht hvm hz1 hk1 hB hD1 hc2 hn2
  refine lv_icmp_eq (tgt := 1382) hx hb dL_law_420 (by decide) (fun c_1 => ?_) (fun c_1 => absurd hrr c_1)
  exact kk w2 H2 locs hR2 hB2 hD2 hS

set_option maxHeartbeats 1000000 in
set_option maxRecDepth 100000 in
theorem lc_undo (hx : p.tables.exec = Jvm.exec) (hb : c.code = cL_law) (hml : c.maxLocals = 4) (hown : s.vm.findClass RL = some m.cls) (hts : ∀ w ∈ wsL_law, w.before #[Value.ref b] s = true) (hX : va_X b L xs s s.heap) (hbl : b < s.heap.size) (hL : L ≤ 384) (hce : cells ≤ 600000) (hsl : slots ≤ 7302249) (hK : lzK G s) (hSt : lzStr aK aV (fun q => s.heap.size ≤ q) s s.heap) {w : lzSx × lzSm} (hR : RelS w) {i : Nat} (hi : i + 6 ≤ L) {H : Heap} {locs : List Loc} {ls : Array Slot} (hl : lv_has ls 4 [(3, .int (nI i)), (2, .ref (ad 11 0 0)), (1, .ref (ad 0 0 0)), (0, .ref b)]) (hP : va_P G.1 lzC (JW G ad w) H) (hD : va_D (fun q => s.heap.size ≤ q) (JW G ad w)) (hS : va_S (fun q => s.heap.size ≤ q) s.heap H locs)
    (kk : ∀ (w2 : lzSx × lzSm) (H2 : Heap) (locs2 : List Loc), RelS w2 → va_P G.1 lzC (JW G ad w2) H2 → va_D (fun q => s.heap.size ≤ q) (JW G ad w2) → va_S (fun q => s.heap.size ≤ q) s.heap H2 locs2 → W p l e room_1 s m #[Value.ref b] below meth c H2 locs2 cells slots Q (F0 m 1382 ls [])) : W p l e room_1 s m #[Value.ref b] below meth c H locs cells slots Q (F0 m 425 ls []) := by
  have hbA : ¬ (fun q => s.heap.size ≤ q) b := Nat.not_le.mpr hbl
  obtain ⟨⟨C, it, F, FS, RS, RF, MD, MF, cs⟩, B, wy⟩ := w
  refine lv_aload_n hx hb dL_law_425 rfl (lv_at hl 2 rfl) ?_
  obtain ⟨P9, hc1, hn1⟩ : stepJ l G ad aK aV yX3_undo wsX3_undo yX4_undo wsX4_undo [] ((C, it, F, FS, RS, RF, MD, MF, cs), (B, wy)) := stepJ_of _ (st_undo hR)
  refine va_calli (va_runV (As := []) (rest := []) ⟨hx, hb, hml, hown, hts⟩ hc1 (cwV 0 hts gL_law_X3_undo rfl rfl rfl (by decide +kernel) ⟨(Nat.le_of_ble_eq_true rfl), (Nat.le_of_ble_eq_true rfl)⟩) (rws_preV hK hP hD hSt hS (jw_free hD) (va_recv hK.1 hP (ci := 3) (q0 := 0) rfl rfl)) rfl rfl hl.1 rfl (lv_room (Nat.le_of_ble_eq_true rfl)) dL_law_426 ⟨hce, hsl⟩) hS (fun q _ h => jw_free hD q h) (jw_free hD) (fun r1 w1 t9 H1 locs ht hvm hr1 hB hz1 hk1 hS => ?_)
  replace hB : va_P G.1 lzC (JW G ad w1) t9.heap := hB
  rw [ht] at hB
  have hD1 := jw_D w1 hD
  obtain ⟨Q9, hc2, hn2⟩ := hn1 r1 w1 hr1
  clear ht hvm hz1 hk1 hP hD hc1 hn1
  refine lv_aload_n hx hb dL_law_429 rfl (lv_at hl 1 rfl) ?_
  refine va_calli (va_runV (As := []) (rest := [.int r1]) ⟨hx, hb, hml, hown, hts⟩ hc2 (cwV 0 hts gL_law_X4_undo rfl rfl rfl (by decide +kernel) ⟨(Nat.le_of_ble_eq_true rfl), (Nat.le_of_ble_eq_true rfl)⟩) (rws_preV hK hB hD1 hSt hS (jw_free hD1) (va_recv hK.1 (P_split hB).2 (ci := 4) (q0 := 0) rfl rfl)) rfl rfl hl.1 rfl (lv_room (Nat.le_of_ble_eq_true rfl)) dL_law_430 ⟨hce, hsl⟩) hS (fun q _ h => jw_free hD1 q h) (jw_free hD1) (fun r2 w2 t9 H2 locs ht hvm hr2 hB2 hz1 hk1 hS => ?_)
  replace hB2 : va_P G.1 lzC (JW G ad w2) t9.heap := hB2
  rw [ht] at hB2
  have hD2 := jw_D w2 hD1
  obtain ⟨hrr, hR2⟩ := hn2 r2 w2 hr2
  clear ht hvm hz1 hk1 hB hD1 hc2 hn2
  refine lv_icmp_eq (tgt := 1382) hx hb dL_law_433 (by decide) (fun c_1 => ?_) (fun c_1 => absurd hrr c_1)
  exact kk w2 H2 locs hR2 hB2 hD2 hS

set_option maxHeartbeats 1000000 in
set_option maxRecDepth 100000 in
theorem lc_pose (hx : p.tables.exec = Jvm.exec) (hb : c.code = cL_law) (hml : c.maxLocals = 4) (hown : s.vm.findClass RL = some m.cls) (hts : ∀ w ∈ wsL_law, w.before #[Value.ref b] s = true) (hX : va_X b L xs s s.heap) (hbl : b < s.heap.size) (hL : L ≤ 384) (hce : cells ≤ 600000) (hsl : slots ≤ 7302249) (hK : lzK G s) (hSt : lzStr aK aV (fun q => s.heap.size ≤ q) s s.heap) {w : lzSx × lzSm} (hR : RelS w) {i : Nat} (hi : i + 6 ≤ L) {H : Heap} {locs : List Loc} {ls : Array Slot} (hl : lv_has ls 4 [(3, .int (nI i)), (2, .ref (ad 11 0 0)), (1, .ref (ad 0 0 0)), (0, .ref b)]) (hP : va_P G.1 lzC (JW G ad w) H) (hD : va_D (fun q => s.heap.size ≤ q) (JW G ad w)) (hS : va_S (fun q => s.heap.size ≤ q) s.heap H locs)
    (kk : ∀ (w2 : lzSx × lzSm) (H2 : Heap) (locs2 : List Loc), RelS w2 → va_P G.1 lzC (JW G ad w2) H2 → va_D (fun q => s.heap.size ≤ q) (JW G ad w2) → va_S (fun q => s.heap.size ≤ q) s.heap H2 locs2 → W p l e room_1 s m #[Value.ref b] below meth c H2 locs2 cells slots Q (F0 m 1382 ls [])) : W p l e room_1 s m #[Value.ref b] below meth c H locs cells slots Q (F0 m 438 ls []) := by
  have hbA : ¬ (fun q => s.heap.size ≤ q) b := Nat.not_le.mpr hbl
  obtain ⟨⟨C, it, F, FS, RS, RF, MD, MF, cs⟩, B, wy⟩ := w
  refine lv_aload_n hx hb dL_law_438 rfl (lv_at hl 2 rfl) ?_
  refine lv_aload_n hx hb dL_law_439 rfl (lv_at hl 3 rfl) ?_
  refine lv_iload_n hx hb dL_law_440 rfl (lv_at hl 0 rfl) ?_
  refine lv_iconst (v := 1) hx hb dL_law_441 (by decide) ?_
  refine lv_iadd hx hb dL_law_442 ?_
  refine lz_top (y := nI (i + 1)) (by simp only [fa_lit, nI_add]) ?_
  refine va_sld hx hb hX hbl hbA hS (vp_in_nI (by omega) (by omega)) dL_law_443 ?_
  refine lv_aload_n hx hb dL_law_444 rfl (lv_at hl 3 rfl) ?_
  refine lv_iload_n hx hb dL_law_445 rfl (lv_at hl 0 rfl) ?_
  refine lv_iconst (v := 2) hx hb dL_law_446 (by decide) ?_
  refine lv_iadd hx hb dL_law_447 ?_
  refine lz_top (y := nI (i + 2)) (by simp only [fa_lit, nI_add]) ?_
  refine va_sld hx hb hX hbl hbA hS (vp_in_nI (by omega) (by omega)) dL_law_448 ?_
  obtain ⟨P9, hc1, hn1⟩ : stepJ l G ad aK aV yX3_pose wsX3_pose yX4_pose wsX4_pose [.int (xs (nI (i + 1)).toNatClampNeg), .int (xs (nI (i + 2)).toNatClampNeg)] ((C, it, F, FS, RS, RF, MD, MF, cs), (B, wy)) := stepJ_of _ (st_pose hR (xs (nI (i + 1)).toNatClampNeg) (xs (nI (i + 2)).toNatClampNeg))
  refine va_calli (va_runV (As := [.int (xs (nI (i + 1)).toNatClampNeg), .int (xs (nI (i + 2)).toNatClampNeg)]) (rest := []) ⟨hx, hb, hml, hown, hts⟩ hc1 (cwV 2 hts gL_law_X3_pose rfl rfl rfl (by decide +kernel) ⟨(Nat.le_of_ble_eq_true rfl), (Nat.le_of_ble_eq_true rfl)⟩) (rws_preV hK hP hD hSt hS (jw_free hD) (va_recv hK.1 hP (ci := 3) (q0 := 0) rfl rfl)) rfl rfl hl.1 rfl (lv_room (Nat.le_of_ble_eq_true rfl)) dL_law_449 ⟨hce, hsl⟩) hS (fun q _ h => jw_free hD q h) (jw_free hD) (fun r1 w1 t9 H1 locs ht hvm hr1 hB hz1 hk1 hS => ?_)
  replace hB : va_P G.1 lzC (JW G ad w1) t9.heap := hB
  rw [ht] at hB
  have hD1 := jw_D w1 hD
  obtain ⟨Q9, hc2, hn2⟩ := hn1 r1 w1 hr1
  clear ht hvm hz1 hk1 hP hD hc1 hn1
  refine lv_aload_n hx hb dL_law_452 rfl (lv_at hl 1 rfl) ?_
  refine lv_aload_n hx hb dL_law_453 rfl (lv_at hl 3 rfl) ?_
  refine lv_iload_n hx hb dL_law_454 rfl (lv_at hl 0 rfl) ?_
  refine lv_iconst (v := 1) hx hb dL_law_455 (by decide) ?_
  refine lv_iadd hx hb dL_law_456 ?_
  refine lz_top (y := nI (i + 1)) (by simp only [fa_lit, nI_add]) ?_
  refine va_sld hx hb hX hbl hbA hS (vp_in_nI (by omega) (by omega)) dL_law_457 ?_
  refine lv_aload_n hx hb dL_law_458 rfl (lv_at hl 3 rfl) ?_
  refine lv_iload_n hx hb dL_law_459 rfl (lv_at hl 0 rfl) ?_
  refine lv_iconst (v := 2) hx hb dL_law_460 (by decide) ?_
  refine lv_iadd hx hb dL_law_461 ?_
  refine lz_top (y := nI (i + 2)) (by simp only [fa_lit, nI_add]) ?_
  refine va_sld hx hb hX hbl hbA hS (vp_in_nI (by omega) (by omega)) dL_law_462 ?_
  refine va_calli (va_runV (As := [.int (xs (nI (i + 1)).toNatClampNeg), .int (xs (nI (i + 2)).toNatClampNeg)]) (rest := [.int r1]) ⟨hx, hb, hml, hown, hts⟩ hc2 (cwV 2 hts gL_law_X4_pose rfl rfl rfl (by decide +kernel) ⟨(Nat.le_of_ble_eq_true rfl), (Nat.le_of_ble_eq_true rfl)⟩) (rws_preV hK hB hD1 hSt hS (jw_free hD1) (va_recv hK.1 (P_split hB).2 (ci := 4) (q0 := 0) rfl rfl)) rfl rfl hl.1 rfl (lv_room (Nat.le_of_ble_eq_true rfl)) dL_law_463 ⟨hce, hsl⟩) hS (fun q _ h => jw_free hD1 q h) (jw_free hD1) (fun r2 w2 t9 H2 locs ht hvm hr2 hB2 hz1 hk1 hS => ?_)
  replace hB2 : va_P G.1 lzC (JW G ad w2) t9.heap := hB2
  rw [ht] at hB2
  have hD2 := jw_D w2 hD1
  obtain ⟨hrr, hR2⟩ := hn2 r2 w2 hr2
  clear ht hvm hz1 hk1 hB hD1 hc2 hn2
  refine lv_icmp_eq (tgt := 1382) hx hb dL_law_466 (by decide) (fun c_1 => ?_) (fun c_1 => absurd hrr c_1)
  exact kk w2 H2 locs hR2 hB2 hD2 hS

set_option maxHeartbeats 1000000 in
set_option maxRecDepth 100000 in
theorem lc_strict (hx : p.tables.exec = Jvm.exec) (hb : c.code = cL_law) (hml : c.maxLocals = 4) (hown : s.vm.findClass RL = some m.cls) (hts : ∀ w ∈ wsL_law, w.before #[Value.ref b] s = true) (hX : va_X b L xs s s.heap) (hbl : b < s.heap.size) (hL : L ≤ 384) (hce : cells ≤ 600000) (hsl : slots ≤ 7302249) (hK : lzK G s) (hSt : lzStr aK aV (fun q => s.heap.size ≤ q) s s.heap) {w : lzSx × lzSm} (hR : RelS w) {i : Nat} (hi : i + 6 ≤ L) {H : Heap} {locs : List Loc} {ls : Array Slot} (hl : lv_has ls 4 [(3, .int (nI i)), (2, .ref (ad 11 0 0)), (1, .ref (ad 0 0 0)), (0, .ref b)]) (hP : va_P G.1 lzC (JW G ad w) H) (hD : va_D (fun q => s.heap.size ≤ q) (JW G ad w)) (hS : va_S (fun q => s.heap.size ≤ q) s.heap H locs)
    (kk : ∀ (w2 : lzSx × lzSm) (H2 : Heap) (locs2 : List Loc), RelS w2 → va_P G.1 lzC (JW G ad w2) H2 → va_D (fun q => s.heap.size ≤ q) (JW G ad w2) → va_S (fun q => s.heap.size ≤ q) s.heap H2 locs2 → W p l e room_1 s m #[Value.ref b] below meth c H2 locs2 cells slots Q (F0 m 1382 ls [])) : W p l e room_1 s m #[Value.ref b] below meth c H locs cells slots Q (F0 m 471 ls []) := by
  have hbA : ¬ (fun q => s.heap.size ≤ q) b := Nat.not_le.mpr hbl
  obtain ⟨⟨C, it, F, FS, RS, RF, MD, MF, cs⟩, B, wy⟩ := w
  refine lv_aload_n hx hb dL_law_471 rfl (lv_at hl 2 rfl) ?_
  refine lv_aload_n hx hb dL_law_472 rfl (lv_at hl 3 rfl) ?_
  refine lv_iload_n hx hb dL_law_473 rfl (lv_at hl 0 rfl) ?_
  refine lv_iconst (v := 1) hx hb dL_law_474 (by decide) ?_
  refine lv_iadd hx hb dL_law_475 ?_
  refine lz_top (y := nI (i + 1)) (by simp only [fa_lit, nI_add]) ?_
  refine va_sld hx hb hX hbl hbA hS (vp_in_nI (by omega) (by omega)) dL_law_476 ?_
  obtain ⟨P9, hc1, hn1⟩ : stepJ l G ad aK aV yX3_strict wsX3_strict yX4_strict wsX4_strict [.int (xs (nI (i + 1)).toNatClampNeg)] ((C, it, F, FS, RS, RF, MD, MF, cs), (B, wy)) := stepJ_of _ (st_strict hR (xs (nI (i + 1)).toNatClampNeg))
  refine va_calli (va_runV (As := [.int (xs (nI (i + 1)).toNatClampNeg)]) (rest := []) ⟨hx, hb, hml, hown, hts⟩ hc1 (cwV 1 hts gL_law_X3_strict rfl rfl rfl (by decide +kernel) ⟨(Nat.le_of_ble_eq_true rfl), (Nat.le_of_ble_eq_true rfl)⟩) (rws_preV hK hP hD hSt hS (jw_free hD) (va_recv hK.1 hP (ci := 3) (q0 := 0) rfl rfl)) rfl rfl hl.1 rfl (lv_room (Nat.le_of_ble_eq_true rfl)) dL_law_477 ⟨hce, hsl⟩) hS (fun q _ h => jw_free hD q h) (jw_free hD) (fun r1 w1 t9 H1 locs ht hvm hr1 hB hz1 hk1 hS => ?_)
  replace hB : va_P G.1 lzC (JW G ad w1) t9.heap := hB
  rw [ht] at hB
  have hD1 := jw_D w1 hD
  obtain ⟨Q9, hc2, hn2⟩ := hn1 r1 w1 hr1
  clear ht hvm hz1 hk1 hP hD hc1 hn1
  refine lv_aload_n hx hb dL_law_480 rfl (lv_at hl 1 rfl) ?_
  refine lv_aload_n hx hb dL_law_481 rfl (lv_at hl 3 rfl) ?_
  refine lv_iload_n hx hb dL_law_482 rfl (lv_at hl 0 rfl) ?_
  refine lv_iconst (v := 1) hx hb dL_law_483 (by decide) ?_
  refine lv_iadd hx hb dL_law_484 ?_
  refine lz_top (y := nI (i + 1)) (by simp only [fa_lit, nI_add]) ?_
  refine va_sld hx hb hX hbl hbA hS (vp_in_nI (by omega) (by omega)) dL_law_485 ?_
  refine va_calli (va_runV (As := [.int (xs (nI (i + 1)).toNatClampNeg)]) (rest := [.int r1]) ⟨hx, hb, hml, hown, hts⟩ hc2 (cwV 1 hts gL_law_X4_strict rfl rfl rfl (by decide +kernel) ⟨(Nat.le_of_ble_eq_true rfl), (Nat.le_of_ble_eq_true rfl)⟩) (rws_preV hK hB hD1 hSt hS (jw_free hD1) (va_recv hK.1 (P_split hB).2 (ci := 4) (q0 := 0) rfl rfl)) rfl rfl hl.1 rfl (lv_room (Nat.le_of_ble_eq_true rfl)) dL_law_486 ⟨hce, hsl⟩) hS (fun q _ h => jw_free hD1 q h) (jw_free hD1) (fun r2 w2 t9 H2 locs ht hvm hr2 hB2 hz1 hk1 hS => ?_)
  replace hB2 : va_P G.1 lzC (JW G ad w2) t9.heap := hB2
  rw [ht] at hB2
  have hD2 := jw_D w2 hD1
  obtain ⟨hrr, hR2⟩ := hn2 r2 w2 hr2
  clear ht hvm hz1 hk1 hB hD1 hc2 hn2
  refine lv_icmp_eq (tgt := 1382) hx hb dL_law_489 (by decide) (fun c_1 => ?_) (fun c_1 => absurd hrr c_1)
  exact kk w2 H2 locs hR2 hB2 hD2 hS

set_option maxHeartbeats 1000000 in
set_option maxRecDepth 100000 in
theorem lc_share (hx : p.tables.exec = Jvm.exec) (hb : c.code = cL_law) (hml : c.maxLocals = 4) (hown : s.vm.findClass RL = some m.cls) (hts : ∀ w ∈ wsL_law, w.before #[Value.ref b] s = true) (hX : va_X b L xs s s.heap) (hbl : b < s.heap.size) (hL : L ≤ 384) (hce : cells ≤ 600000) (hsl : slots ≤ 7302249) (hK : lzK G s) (hSt : lzStr aK aV (fun q => s.heap.size ≤ q) s s.heap) {w : lzSx × lzSm} (hR : RelS w) {i : Nat} (hi : i + 6 ≤ L) {H : Heap} {locs : List Loc} {ls : Array Slot} (hl : lv_has ls 4 [(3, .int (nI i)), (2, .ref (ad 11 0 0)), (1, .ref (ad 0 0 0)), (0, .ref b)]) (hP : va_P G.1 lzC (JW G ad w) H) (hD : va_D (fun q => s.heap.size ≤ q) (JW G ad w)) (hS : va_S (fun q => s.heap.size ≤ q) s.heap H locs)
    (kk : ∀ (w2 : lzSx × lzSm) (H2 : Heap) (locs2 : List Loc), RelS w2 → va_P G.1 lzC (JW G ad w2) H2 → va_D (fun q => s.heap.size ≤ q) (JW G ad w2) → va_S (fun q => s.heap.size ≤ q) s.heap H2 locs2 → W p l e room_1 s m #[Value.ref b] below meth c H2 locs2 cells slots Q (F0 m 1382 ls [])) : W p l e room_1 s m #[Value.ref b] below meth c H locs cells slots Q (F0 m 494 ls []) := by
  have hbA : ¬ (fun q => s.heap.size ≤ q) b := Nat.not_le.mpr hbl
  obtain ⟨⟨C, it, F, FS, RS, RF, MD, MF, cs⟩, B, wy⟩ := w
  refine lv_aload_n hx hb dL_law_494 rfl (lv_at hl 2 rfl) ?_
  refine lv_aload_n hx hb dL_law_495 rfl (lv_at hl 3 rfl) ?_
  refine lv_iload_n hx hb dL_law_496 rfl (lv_at hl 0 rfl) ?_
  refine lv_iconst (v := 1) hx hb dL_law_497 (by decide) ?_
  refine lv_iadd hx hb dL_law_498 ?_
  refine lz_top (y := nI (i + 1)) (by simp only [fa_lit, nI_add]) ?_
  refine va_sld hx hb hX hbl hbA hS (vp_in_nI (by omega) (by omega)) dL_law_499 ?_
  refine lv_aload_n hx hb dL_law_500 rfl (lv_at hl 3 rfl) ?_
  refine lv_iload_n hx hb dL_law_501 rfl (lv_at hl 0 rfl) ?_
  refine lv_iconst (v := 2) hx hb dL_law_502 (by decide) ?_
  refine lv_iadd hx hb dL_law_503 ?_
  refine lz_top (y := nI (i + 2)) (by simp only [fa_lit, nI_add]) ?_
  refine va_sld hx hb hX hbl hbA hS (vp_in_nI (by omega) (by omega)) dL_law_504 ?_
  obtain ⟨P9, hc1, hn1⟩ : stepJ l G ad aK aV yX3_share wsX3_share yX4_share wsX4_share [.int (xs (nI (i + 1)).toNatClampNeg), .int (xs (nI (i + 2)).toNatClampNeg)] ((C, it, F, FS, RS, RF, MD, MF, cs), (B, wy)) := stepJ_of _ (st_share hR (xs (nI (i + 1)).toNatClampNeg) (xs (nI (i + 2)).toNatClampNeg))
  refine va_calli (va_runV (As := [.int (xs (nI (i + 1)).toNatClampNeg), .int (xs (nI (i + 2)).toNatClampNeg)]) (rest := []) ⟨hx, hb, hml, hown, hts⟩ hc1 (cwV 2 hts gL_law_X3_share rfl rfl rfl (by decide +kernel) ⟨(Nat.le_of_ble_eq_true rfl), (Nat.le_of_ble_eq_true rfl)⟩) (rws_preV hK hP hD hSt hS (jw_free hD) (va_recv hK.1 hP (ci := 3) (q0 := 0) rfl rfl)) rfl rfl hl.1 rfl (lv_room (Nat.le_of_ble_eq_true rfl)) dL_law_505 ⟨hce, hsl⟩) hS (fun q _ h => jw_free hD q h) (jw_free hD) (fun r1 w1 t9 H1 locs ht hvm hr1 hB hz1 hk1 hS => ?_)
  replace hB : va_P G.1 lzC (JW G ad w1) t9.heap := hB
  rw [ht] at hB
  have hD1 := jw_D w1 hD
  obtain ⟨Q9, hc2, hn2⟩ := hn1 r1 w1 hr1
  clear ht hvm hz1 hk1 hP hD hc1 hn1
  refine lv_aload_n hx hb dL_law_508 rfl (lv_at hl 1 rfl) ?_
  refine lv_aload_n hx hb dL_law_509 rfl (lv_at hl 3 rfl) ?_
  refine lv_iload_n hx hb dL_law_510 rfl (lv_at hl 0 rfl) ?_
  refine lv_iconst (v := 1) hx hb dL_law_511 (by decide) ?_
  refine lv_iadd hx hb dL_law_512 ?_
  refine lz_top (y := nI (i + 1)) (by simp only [fa_lit, nI_add]) ?_
  refine va_sld hx hb hX hbl hbA hS (vp_in_nI (by omega) (by omega)) dL_law_513 ?_
  refine lv_aload_n hx hb dL_law_514 rfl (lv_at hl 3 rfl) ?_
  refine lv_iload_n hx hb dL_law_515 rfl (lv_at hl 0 rfl) ?_
  refine lv_iconst (v := 2) hx hb dL_law_516 (by decide) ?_
  refine lv_iadd hx hb dL_law_517 ?_
  refine lz_top (y := nI (i + 2)) (by simp only [fa_lit, nI_add]) ?_
  refine va_sld hx hb hX hbl hbA hS (vp_in_nI (by omega) (by omega)) dL_law_518 ?_
  refine va_calli (va_runV (As := [.int (xs (nI (i + 1)).toNatClampNeg), .int (xs (nI (i + 2)).toNatClampNeg)]) (rest := [.int r1]) ⟨hx, hb, hml, hown, hts⟩ hc2 (cwV 2 hts gL_law_X4_share rfl rfl rfl (by decide +kernel) ⟨(Nat.le_of_ble_eq_true rfl), (Nat.le_of_ble_eq_true rfl)⟩) (rws_preV hK hB hD1 hSt hS (jw_free hD1) (va_recv hK.1 (P_split hB).2 (ci := 4) (q0 := 0) rfl rfl)) rfl rfl hl.1 rfl (lv_room (Nat.le_of_ble_eq_true rfl)) dL_law_519 ⟨hce, hsl⟩) hS (fun q _ h => jw_free hD1 q h) (jw_free hD1) (fun r2 w2 t9 H2 locs ht hvm hr2 hB2 hz1 hk1 hS => ?_)
  replace hB2 : va_P G.1 lzC (JW G ad w2) t9.heap := hB2
  rw [ht] at hB2
  have hD2 := jw_D w2 hD1
  obtain ⟨hrr, hR2⟩ := hn2 r2 w2 hr2
  clear ht hvm hz1 hk1 hB hD1 hc2 hn2
  refine lv_icmp_eq (tgt := 1382) hx hb dL_law_522 (by decide) (fun c_1 => ?_) (fun c_1 => absurd hrr c_1)
  exact kk w2 H2 locs hR2 hB2 hD2 hS

set_option maxHeartbeats 1000000 in
set_option maxRecDepth 100000 in
theorem lc_settle (hx : p.tables.exec = Jvm.exec) (hb : c.code = cL_law) (hml : c.maxLocals = 4) (hown : s.vm.findClass RL = some m.cls) (hts : ∀ w ∈ wsL_law, w.before #[Value.ref b] s = true) (hX : va_X b L xs s s.heap) (hbl : b < s.heap.size) (hL : L ≤ 384) (hce : cells ≤ 600000) (hsl : slots ≤ 7302249) (hK : lzK G s) (hSt : lzStr aK aV (fun q => s.heap.size ≤ q) s s.heap) {w : lzSx × lzSm} (hR : RelS w) {i : Nat} (hi : i + 6 ≤ L) {H : Heap} {locs : List Loc} {ls : Array Slot} (hl : lv_has ls 4 [(3, .int (nI i)), (2, .ref (ad 11 0 0)), (1, .ref (ad 0 0 0)), (0, .ref b)]) (hP : va_P G.1 lzC (JW G ad w) H) (hD : va_D (fun q => s.heap.size ≤ q) (JW G ad w)) (hS : va_S (fun q => s.heap.size ≤ q) s.heap H locs)
    (kk : ∀ (w2 : lzSx × lzSm) (H2 : Heap) (locs2 : List Loc), RelS w2 → va_P G.1 lzC (JW G ad w2) H2 → va_D (fun q => s.heap.size ≤ q) (JW G ad w2) → va_S (fun q => s.heap.size ≤ q) s.heap H2 locs2 → W p l e room_1 s m #[Value.ref b] below meth c H2 locs2 cells slots Q (F0 m 1382 ls [])) : W p l e room_1 s m #[Value.ref b] below meth c H locs cells slots Q (F0 m 527 ls []) := by
  have hbA : ¬ (fun q => s.heap.size ≤ q) b := Nat.not_le.mpr hbl
  obtain ⟨⟨C, it, F, FS, RS, RF, MD, MF, cs⟩, B, wy⟩ := w
  refine lv_aload_n hx hb dL_law_527 rfl (lv_at hl 2 rfl) ?_
  refine lv_aload_n hx hb dL_law_528 rfl (lv_at hl 3 rfl) ?_
  refine lv_iload_n hx hb dL_law_529 rfl (lv_at hl 0 rfl) ?_
  refine lv_iconst (v := 1) hx hb dL_law_530 (by decide) ?_
  refine lv_iadd hx hb dL_law_531 ?_
  refine lz_top (y := nI (i + 1)) (by simp only [fa_lit, nI_add]) ?_
  refine va_sld hx hb hX hbl hbA hS (vp_in_nI (by omega) (by omega)) dL_law_532 ?_
  obtain ⟨P9, hc1, hn1⟩ : stepJ l G ad aK aV yX3_settle wsX3_settle yX4_settle wsX4_settle [.int (xs (nI (i + 1)).toNatClampNeg)] ((C, it, F, FS, RS, RF, MD, MF, cs), (B, wy)) := stepJ_of _ (st_settle hR (xs (nI (i + 1)).toNatClampNeg))
  refine va_calli (va_runV (As := [.int (xs (nI (i + 1)).toNatClampNeg)]) (rest := []) ⟨hx, hb, hml, hown, hts⟩ hc1 (cwV 1 hts gL_law_X3_settle rfl rfl rfl (by decide +kernel) ⟨(Nat.le_of_ble_eq_true rfl), (Nat.le_of_ble_eq_true rfl)⟩) (rws_preV hK hP hD hSt hS (jw_free hD) (va_recv hK.1 hP (ci := 3) (q0 := 0) rfl rfl)) rfl rfl hl.1 rfl (lv_room (Nat.le_of_ble_eq_true rfl)) dL_law_533 ⟨hce, hsl⟩) hS (fun q _ h => jw_free hD q h) (jw_free hD) (fun r1 w1 t9 H1 locs ht hvm hr1 hB hz1 hk1 hS => ?_)
  replace hB : va_P G.1 lzC (JW G ad w1) t9.heap := hB
  rw [ht] at hB
  have hD1 := jw_D w1 hD
  obtain ⟨Q9, hc2, hn2⟩ := hn1 r1 w1 hr1
  clear ht hvm hz1 hk1 hP hD hc1 hn1
  refine lv_aload_n hx hb dL_law_536 rfl (lv_at hl 1 rfl) ?_
  refine lv_aload_n hx hb dL_law_537 rfl (lv_at hl 3 rfl) ?_
  refine lv_iload_n hx hb dL_law_538 rfl (lv_at hl 0 rfl) ?_
  refine lv_iconst (v := 1) hx hb dL_law_539 (by decide) ?_
  refine lv_iadd hx hb dL_law_540 ?_
  refine lz_top (y := nI (i + 1)) (by simp only [fa_lit, nI_add]) ?_
  refine va_sld hx hb hX hbl hbA hS (vp_in_nI (by omega) (by omega)) dL_law_541 ?_
  refine va_calli (va_runV (As := [.int (xs (nI (i + 1)).toNatClampNeg)]) (rest := [.int r1]) ⟨hx, hb, hml, hown, hts⟩ hc2 (cwV 1 hts gL_law_X4_settle rfl rfl rfl (by decide +kernel) ⟨(Nat.le_of_ble_eq_true rfl), (Nat.le_of_ble_eq_true rfl)⟩) (rws_preV hK hB hD1 hSt hS (jw_free hD1) (va_recv hK.1 (P_split hB).2 (ci := 4) (q0 := 0) rfl rfl)) rfl rfl hl.1 rfl (lv_room (Nat.le_of_ble_eq_true rfl)) dL_law_542 ⟨hce, hsl⟩) hS (fun q _ h => jw_free hD1 q h) (jw_free hD1) (fun r2 w2 t9 H2 locs ht hvm hr2 hB2 hz1 hk1 hS => ?_)
  replace hB2 : va_P G.1 lzC (JW G ad w2) t9.heap := hB2
  rw [ht] at hB2
  have hD2 := jw_D w2 hD1
  obtain ⟨hrr, hR2⟩ := hn2 r2 w2 hr2
  clear ht hvm hz1 hk1 hB hD1 hc2 hn2
  refine lv_icmp_eq (tgt := 1382) hx hb dL_law_545 (by decide) (fun c_1 => ?_) (fun c_1 => absurd hrr c_1)
  exact kk w2 H2 locs hR2 hB2 hD2 hS

set_option maxHeartbeats 1000000 in
set_option maxRecDepth 100000 in
theorem lc_square (hx : p.tables.exec = Jvm.exec) (hb : c.code = cL_law) (hml : c.maxLocals = 4) (hown : s.vm.findClass RL = some m.cls) (hts : ∀ w ∈ wsL_law, w.before #[Value.ref b] s = true) (hX : va_X b L xs s s.heap) (hbl : b < s.heap.size) (hL : L ≤ 384) (hce : cells ≤ 600000) (hsl : slots ≤ 7302249) (hK : lzK G s) (hSt : lzStr aK aV (fun q => s.heap.size ≤ q) s s.heap) {w : lzSx × lzSm} (hR : RelS w) {i : Nat} (hi : i + 6 ≤ L) {H : Heap} {locs : List Loc} {ls : Array Slot} (hl : lv_has ls 4 [(3, .int (nI i)), (2, .ref (ad 11 0 0)), (1, .ref (ad 0 0 0)), (0, .ref b)]) (hP : va_P G.1 lzC (JW G ad w) H) (hD : va_D (fun q => s.heap.size ≤ q) (JW G ad w)) (hS : va_S (fun q => s.heap.size ≤ q) s.heap H locs)
    (kk : ∀ (w2 : lzSx × lzSm) (H2 : Heap) (locs2 : List Loc), RelS w2 → va_P G.1 lzC (JW G ad w2) H2 → va_D (fun q => s.heap.size ≤ q) (JW G ad w2) → va_S (fun q => s.heap.size ≤ q) s.heap H2 locs2 → W p l e room_1 s m #[Value.ref b] below meth c H2 locs2 cells slots Q (F0 m 1382 ls [])) : W p l e room_1 s m #[Value.ref b] below meth c H locs cells slots Q (F0 m 550 ls []) := by
  have hbA : ¬ (fun q => s.heap.size ≤ q) b := Nat.not_le.mpr hbl
  obtain ⟨⟨C, it, F, FS, RS, RF, MD, MF, cs⟩, B, wy⟩ := w
  refine lv_aload_n hx hb dL_law_550 rfl (lv_at hl 2 rfl) ?_
  refine lv_aload_n hx hb dL_law_551 rfl (lv_at hl 3 rfl) ?_
  refine lv_iload_n hx hb dL_law_552 rfl (lv_at hl 0 rfl) ?_
  refine lv_iconst (v := 1) hx hb dL_law_553 (by decide) ?_
  refine lv_iadd hx hb dL_law_554 ?_
  refine lz_top (y := nI (i + 1)) (by simp only [fa_lit, nI_add]) ?_
  refine va_sld hx hb hX hbl hbA hS (vp_in_nI (by omega) (by omega)) dL_law_555 ?_
  refine lv_aload_n hx hb dL_law_556 rfl (lv_at hl 3 rfl) ?_
  refine lv_iload_n hx hb dL_law_557 rfl (lv_at hl 0 rfl) ?_
  refine lv_iconst (v := 2) hx hb dL_law_558 (by decide) ?_
  refine lv_iadd hx hb dL_law_559 ?_
  refine lz_top (y := nI (i + 2)) (by simp only [fa_lit, nI_add]) ?_
  refine va_sld hx hb hX hbl hbA hS (vp_in_nI (by omega) (by omega)) dL_law_560 ?_
  obtain ⟨P9, hc1, hn1⟩ : stepJ l G ad aK aV yX3_square wsX3_square yX4_square wsX4_square [.int (xs (nI (i + 1)).toNatClampNeg), .int (xs (nI (i + 2)).toNatClampNeg)] ((C, it, F, FS, RS, RF, MD, MF, cs), (B, wy)) := stepJ_of _ (st_square hR (xs (nI (i + 1)).toNatClampNeg) (xs (nI (i + 2)).toNatClampNeg))
  refine va_calli (va_runV (As := [.int (xs (nI (i + 1)).toNatClampNeg), .int (xs (nI (i + 2)).toNatClampNeg)]) (rest := []) ⟨hx, hb, hml, hown, hts⟩ hc1 (cwV 2 hts gL_law_X3_square rfl rfl rfl (by decide +kernel) ⟨(Nat.le_of_ble_eq_true rfl), (Nat.le_of_ble_eq_true rfl)⟩) (rws_preV hK hP hD hSt hS (jw_free hD) (va_recv hK.1 hP (ci := 3) (q0 := 0) rfl rfl)) rfl rfl hl.1 rfl (lv_room (Nat.le_of_ble_eq_true rfl)) dL_law_561 ⟨hce, hsl⟩) hS (fun q _ h => jw_free hD q h) (jw_free hD) (fun r1 w1 t9 H1 locs ht hvm hr1 hB hz1 hk1 hS => ?_)
  replace hB : va_P G.1 lzC (JW G ad w1) t9.heap := hB
  rw [ht] at hB
  have hD1 := jw_D w1 hD
  obtain ⟨Q9, hc2, hn2⟩ := hn1 r1 w1 hr1
  clear ht hvm hz1 hk1 hP hD hc1 hn1
  refine lv_aload_n hx hb dL_law_564 rfl (lv_at hl 1 rfl) ?_
  refine lv_aload_n hx hb dL_law_565 rfl (lv_at hl 3 rfl) ?_
  refine lv_iload_n hx hb dL_law_566 rfl (lv_at hl 0 rfl) ?_
  refine lv_iconst (v := 1) hx hb dL_law_567 (by decide) ?_
  refine lv_iadd hx hb dL_law_568 ?_
  refine lz_top (y := nI (i + 1)) (by simp only [fa_lit, nI_add]) ?_
  refine va_sld hx hb hX hbl hbA hS (vp_in_nI (by omega) (by omega)) dL_law_569 ?_
  refine lv_aload_n hx hb dL_law_570 rfl (lv_at hl 3 rfl) ?_
  refine lv_iload_n hx hb dL_law_571 rfl (lv_at hl 0 rfl) ?_
  refine lv_iconst (v := 2) hx hb dL_law_572 (by decide) ?_
  refine lv_iadd hx hb dL_law_573 ?_
  refine lz_top (y := nI (i + 2)) (by simp only [fa_lit, nI_add]) ?_
  refine va_sld hx hb hX hbl hbA hS (vp_in_nI (by omega) (by omega)) dL_law_574 ?_
  refine va_calli (va_runV (As := [.int (xs (nI (i + 1)).toNatClampNeg), .int (xs (nI (i + 2)).toNatClampNeg)]) (rest := [.int r1]) ⟨hx, hb, hml, hown, hts⟩ hc2 (cwV 2 hts gL_law_X4_square rfl rfl rfl (by decide +kernel) ⟨(Nat.le_of_ble_eq_true rfl), (Nat.le_of_ble_eq_true rfl)⟩) (rws_preV hK hB hD1 hSt hS (jw_free hD1) (va_recv hK.1 (P_split hB).2 (ci := 4) (q0 := 0) rfl rfl)) rfl rfl hl.1 rfl (lv_room (Nat.le_of_ble_eq_true rfl)) dL_law_575 ⟨hce, hsl⟩) hS (fun q _ h => jw_free hD1 q h) (jw_free hD1) (fun r2 w2 t9 H2 locs ht hvm hr2 hB2 hz1 hk1 hS => ?_)
  replace hB2 : va_P G.1 lzC (JW G ad w2) t9.heap := hB2
  rw [ht] at hB2
  have hD2 := jw_D w2 hD1
  obtain ⟨hrr, hR2⟩ := hn2 r2 w2 hr2
  clear ht hvm hz1 hk1 hB hD1 hc2 hn2
  refine lv_icmp_eq (tgt := 1382) hx hb dL_law_578 (by decide) (fun c_1 => ?_) (fun c_1 => absurd hrr c_1)
  exact kk w2 H2 locs hR2 hB2 hD2 hS
end LC0
