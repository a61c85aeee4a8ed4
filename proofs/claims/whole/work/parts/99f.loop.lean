/-! the law's loop -/
section LLP
variable {p : Program} {e : Env} {s : State} {m : MethodId} {below : List Frame} {meth : Method} {c : Code} {l : Launch} {b L : Nat} {xs : Nat → Int32} {G : lzG} {ad : Nat → Nat → Nat → Nat} {aK aV cells slots : Nat}
set_option maxHeartbeats 4000000 in
set_option maxRecDepth 100000 in
theorem law_loop (hr : meth.sig.returnType = ret) (hlocks : meth.locks = false) (hx : p.tables.exec = Jvm.exec) (hb : c.code = cL_law) (hml : c.maxLocals = 4) (hown : s.vm.findClass RL = some m.cls) (hts : ∀ w ∈ wsL_law, w.before #[Value.ref b] s = true) (hX : va_X b L xs s s.heap) (hbl : b < s.heap.size) (hL : L ≤ 384) (hce : cells ≤ 600000) (hsl : slots ≤ 7302249) (hK : lzK G s) (hSt : lzStr aK aV (fun q => s.heap.size ≤ q) s s.heap) : ∀ (n i : Nat), L + 6 - i < n → i ≤ L + 6 → ∀ (w : lzSx × lzSm), RelS w → ∀ (H : Heap) (locs : List Loc) (ls : Array Slot), lv_has ls 4 [(3, .int (nI i)), (2, .ref (ad 11 0 0)), (1, .ref (ad 0 0 0)), (0, .ref b)] → va_P G.1 lzC (JW G ad w) H → va_D (fun q => s.heap.size ≤ q) (JW G ad w) → va_S (fun q => s.heap.size ≤ q) s.heap H locs → W p l e room_1 s m #[Value.ref b] below meth c H locs cells slots (lw_Z below #[Value.ref b] s) (F0 m 18 ls []) := by
  have hbA : ¬ (fun q => s.heap.size ≤ q) b := Nat.not_le.mpr hbl
  intro n
  induction n with
  | zero => intro i hn; exact absurd hn (Nat.not_lt_zero _)
  | succ n ih =>
    intro i hn hi w hR H locs ls hl hP hD hS
    refine lv_iload_n hx hb dL_law_18 rfl (lv_at hl 0 rfl) ?_
    refine lv_aload_n hx hb dL_law_19 rfl (lv_at hl 3 rfl) ?_
    refine va_slen hx hb hX hbl hbA hS dL_law_20 ?_
    refine lv_bipush (v := 6) hx hb dL_law_21 (by decide) ?_
    refine lv_isub hx hb dL_law_23 ?_
    refine lv_icmp_gt (tgt := 1388) hx hb dL_law_24 (by decide) (fun c_24 => ?_) (fun c_24 => ?_)
    · refine lv_iconst (v := 1) hx hb dL_law_1388 (by decide) ?_
      refine va_forget (fun q hq => hS.2.2 q hq) ?_
      refine W.widen (k := 600000) (n := 7302249) hce hsl ?_
      exact lw_ret hx hb hr hlocks dL_law_1389
    · have hi6 : i + 6 ≤ L := Nat.not_lt.mp (fun h9 => c_24 ((law_if (by omega) hL).mpr h9))
      refine lv_aload_n hx hb dL_law_27 rfl (lv_at hl 3 rfl) ?_
      refine lv_iload_n hx hb dL_law_28 rfl (lv_at hl 0 rfl) ?_
      refine va_sld hx hb hX hbl hbA hS (vp_in_nI (by omega) (by omega)) dL_law_29 ?_
      refine lv_bipush (v := 63) hx hb dL_law_30 (by decide) ?_
      refine lv_iand hx hb dL_law_32 ?_
      have next : ∀ (w2 : lzSx × lzSm) (H2 : Heap) (locs2 : List Loc), RelS w2 → va_P G.1 lzC (JW G ad w2) H2 → va_D (fun q => s.heap.size ≤ q) (JW G ad w2) → va_S (fun q => s.heap.size ≤ q) s.heap H2 locs2 → W p l e room_1 s m #[Value.ref b] below meth c H2 locs2 cells slots (lw_Z below #[Value.ref b] s) (F0 m 1382 ls []) := fun w2 H2 locs2 hR2 hP2 hD2 hS2 => by
        refine lv_iinc (v := nI (i + 6)) (lv' := [(3, .int (nI (i + 6))), (2, .ref (ad 11 0 0)), (1, .ref (ad 0 0 0)), (0, .ref b)]) hx hb dL_law_1382 hl (k := 0) rfl (by show nI i + 6 = nI (i + 6); rw [show (6 : Int32) = nI 6 from rfl, nI_add]) (by decide) rfl (fun ls2 hl2 => ?_)
        refine lv_goto (tgt := 18) hx hb dL_law_1385 (by decide) ?_
        exact ih (i + 6) (by omega) (by omega) w2 hR2 H2 locs2 ls2 hl2 hP2 hD2 hS2
      generalize xs (nI i).toNatClampNeg &&& 63 = x
      by_cases v_0 : x = 0
      · exact lv_tableIn (off := 171) (tgt := 204) hx hb dL_law_33 (by rw [v_0]; decide) (by rw [v_0]; decide) (by rw [v_0]; rfl) (by decide) (lc_row hx hb hml hown hts hX hbl hL hce hsl hK hSt hR hi6 hl hP hD hS next)
      by_cases v_1 : x = 1
      · exact lv_tableIn (off := 214) (tgt := 247) hx hb dL_law_33 (by rw [v_1]; decide) (by rw [v_1]; decide) (by rw [v_1]; rfl) (by decide) (lc_set hx hb hml hown hts hX hbl hL hce hsl hK hSt hR hi6 hl hP hD hS next)
      by_cases v_2 : x = 2
      · exact lv_tableIn (off := 257) (tgt := 290) hx hb dL_law_33 (by rw [v_2]; decide) (by rw [v_2]; decide) (by rw [v_2]; rfl) (by decide) (lc_copy hx hb hml hown hts hX hbl hL hce hsl hK hSt hR hi6 hl hP hD hS next)
      by_cases v_3 : x = 3
      · exact lv_tableIn (off := 320) (tgt := 353) hx hb dL_law_33 (by rw [v_3]; decide) (by rw [v_3]; decide) (by rw [v_3]; rfl) (by decide) (lc_drop hx hb hml hown hts hX hbl hL hce hsl hK hSt hR hi6 hl hP hD hS next)
      by_cases v_4 : x = 4
      · exact lv_tableIn (off := 343) (tgt := 376) hx hb dL_law_33 (by rw [v_4]; decide) (by rw [v_4]; decide) (by rw [v_4]; rfl) (by decide) (lc_feed hx hb hml hown hts hX hbl hL hce hsl hK hSt hR hi6 hl hP hD hS next)
      by_cases v_5 : x = 5
      · exact lv_tableIn (off := 366) (tgt := 399) hx hb dL_law_33 (by rw [v_5]; decide) (by rw [v_5]; decide) (by rw [v_5]; rfl) (by decide) (lc_door hx hb hml hown hts hX hbl hL hce hsl hK hSt hR hi6 hl hP hD hS next)
      by_cases v_6 : x = 6
      · exact lv_tableIn (off := 379) (tgt := 412) hx hb dL_law_33 (by rw [v_6]; decide) (by rw [v_6]; decide) (by rw [v_6]; rfl) (by decide) (lc_fault hx hb hml hown hts hX hbl hL hce hsl hK hSt hR hi6 hl hP hD hS next)
      by_cases v_7 : x = 7
      · exact lv_tableIn (off := 392) (tgt := 425) hx hb dL_law_33 (by rw [v_7]; decide) (by rw [v_7]; decide) (by rw [v_7]; rfl) (by decide) (lc_undo hx hb hml hown hts hX hbl hL hce hsl hK hSt hR hi6 hl hP hD hS next)
      by_cases v_8 : x = 8
      · exact lv_tableIn (off := 405) (tgt := 438) hx hb dL_law_33 (by rw [v_8]; decide) (by rw [v_8]; decide) (by rw [v_8]; rfl) (by decide) (lc_pose hx hb hml hown hts hX hbl hL hce hsl hK hSt hR hi6 hl hP hD hS next)
      by_cases v_9 : x = 9
      · exact lv_tableIn (off := 438) (tgt := 471) hx hb dL_law_33 (by rw [v_9]; decide) (by rw [v_9]; decide) (by rw [v_9]; rfl) (by decide) (lc_strict hx hb hml hown hts hX hbl hL hce hsl hK hSt hR hi6 hl hP hD hS next)
      by_cases v_10 : x = 10
      · exact lv_tableIn (off := 461) (tgt := 494) hx hb dL_law_33 (by rw [v_10]; decide) (by rw [v_10]; decide) (by rw [v_10]; rfl) (by decide) (lc_share hx hb hml hown hts hX hbl hL hce hsl hK hSt hR hi6 hl hP hD hS next)
      by_cases v_11 : x = 11
      · exact lv_tableIn (off := 494) (tgt := 527) hx hb dL_law_33 (by rw [v_11]; decide) (by rw [v_11]; decide) (by rw [v_11]; rfl) (by decide) (lc_settle hx hb hml hown hts hX hbl hL hce hsl hK hSt hR hi6 hl hP hD hS next)
      by_cases v_12 : x = 12
      · exact lv_tableIn (off := 517) (tgt := 550) hx hb dL_law_33 (by rw [v_12]; decide) (by rw [v_12]; decide) (by rw [v_12]; rfl) (by decide) (lc_square hx hb hml hown hts hX hbl hL hce hsl hK hSt hR hi6 hl hP hD hS next)
      by_cases v_13 : x = 13
      · exact lv_tableIn (off := 550) (tgt := 583) hx hb dL_law_33 (by rw [v_13]; decide) (by rw [v_13]; decide) (by rw [v_13]; rfl) (by decide) (lc_visitor hx hb hml hown hts hX hbl hL hce hsl hK hSt hR hi6 hl hP hD hS next)
      by_cases v_14 : x = 14
      · exact lv_tableIn (off := 583) (tgt := 616) hx hb dL_law_33 (by rw [v_14]; decide) (by rw [v_14]; decide) (by rw [v_14]; rfl) (by decide) (lc_sees hx hb hml hown hts hX hbl hL hce hsl hK hSt hR hi6 hl hP hD hS next)
      by_cases v_15 : x = 15
      · exact lv_tableIn (off := 616) (tgt := 649) hx hb dL_law_33 (by rw [v_15]; decide) (by rw [v_15]; decide) (by rw [v_15]; rfl) (by decide) (lc_clicks hx hb hml hown hts hX hbl hL hce hsl hK hSt hR hi6 hl hP hD hS next)
      by_cases v_16 : x = 16
      · exact lv_tableIn (off := 639) (tgt := 672) hx hb dL_law_33 (by rw [v_16]; decide) (by rw [v_16]; decide) (by rw [v_16]; rfl) (by decide) (lc_wrong hx hb hml hown hts hX hbl hL hce hsl hK hSt hR hi6 hl hP hD hS next)
      by_cases v_17 : x = 17
      · exact lv_tableIn (off := 672) (tgt := 705) hx hb dL_law_33 (by rw [v_17]; decide) (by rw [v_17]; decide) (by rw [v_17]; rfl) (by decide) (lc_guests hx hb hml hown hts hX hbl hL hce hsl hK hSt hR hi6 hl hP hD hS next)
      by_cases v_18 : x = 18
      · exact lv_tableIn (off := 695) (tgt := 728) hx hb dL_law_33 (by rw [v_18]; decide) (by rw [v_18]; decide) (by rw [v_18]; rfl) (by decide) (lc_fewest hx hb hml hown hts hX hbl hL hce hsl hK hSt hR hi6 hl hP hD hS next)
      by_cases v_19 : x = 19
      · exact lv_tableIn (off := 728) (tgt := 761) hx hb dL_law_33 (by rw [v_19]; decide) (by rw [v_19]; decide) (by rw [v_19]; rfl) (by decide) (lc_harsh hx hb hml hown hts hX hbl hL hce hsl hK hSt hR hi6 hl hP hD hS next)
      by_cases v_20 : x = 20
      · exact lv_tableIn (off := 761) (tgt := 794) hx hb dL_law_33 (by rw [v_20]; decide) (by rw [v_20]; decide) (by rw [v_20]; rfl) (by decide) (lc_keen hx hb hml hown hts hX hbl hL hce hsl hK hSt hR hi6 hl hP hD hS next)
      by_cases v_21 : x = 21
      · exact lv_tableIn (off := 784) (tgt := 817) hx hb dL_law_33 (by rw [v_21]; decide) (by rw [v_21]; decide) (by rw [v_21]; rfl) (by decide) (lc_tells hx hb hml hown hts hX hbl hL hce hsl hK hSt hR hi6 hl hP hD hS next)
      by_cases v_22 : x = 22
      · exact lv_tableIn (off := 817) (tgt := 850) hx hb dL_law_33 (by rw [v_22]; decide) (by rw [v_22]; decide) (by rw [v_22]; rfl) (by decide) (lc_learned hx hb hml hown hts hX hbl hL hce hsl hK hSt hR hi6 hl hP hD hS next)
      by_cases v_23 : x = 23
      · exact lv_tableIn (off := 840) (tgt := 873) hx hb dL_law_33 (by rw [v_23]; decide) (by rw [v_23]; decide) (by rw [v_23]; rfl) (by decide) (lc_needs hx hb hml hown hts hX hbl hL hce hsl hK hSt hR hi6 hl hP hD hS next)
      by_cases v_24 : x = 24
      · exact lv_tableIn (off := 863) (tgt := 896) hx hb dL_law_33 (by rw [v_24]; decide) (by rw [v_24]; decide) (by rw [v_24]; rfl) (by decide) (lc_save hx hb hml hown hts hX hbl hL hce hsl hK hSt hR hi6 hl hP hD hS next)
      by_cases v_25 : x = 25
      · exact lv_tableIn (off := 896) (tgt := 929) hx hb dL_law_33 (by rw [v_25]; decide) (by rw [v_25]; decide) (by rw [v_25]; rfl) (by decide) (lc_shares hx hb hml hown hts hX hbl hL hce hsl hK hSt hR hi6 hl hP hD hS next)
      by_cases v_26 : x = 26
      · exact lv_tableIn (off := 939) (tgt := 972) hx hb dL_law_33 (by rw [v_26]; decide) (by rw [v_26]; decide) (by rw [v_26]; rfl) (by decide) (lc_kinds hx hb hml hown hts hX hbl hL hce hsl hK hSt hR hi6 hl hP hD hS next)
      by_cases v_27 : x = 27
      · exact lv_tableIn (off := 982) (tgt := 1015) hx hb dL_law_33 (by rw [v_27]; decide) (by rw [v_27]; decide) (by rw [v_27]; rfl) (by decide) (lc_who hx hb hml hown hts hX hbl hL hce hsl hK hSt hR hi6 hl hP hD hS next)
      by_cases v_28 : x = 28
      · exact lv_tableIn (off := 1015) (tgt := 1048) hx hb dL_law_33 (by rw [v_28]; decide) (by rw [v_28]; decide) (by rw [v_28]; rfl) (by decide) (lc_cares hx hb hml hown hts hX hbl hL hce hsl hK hSt hR hi6 hl hP hD hS next)
      by_cases v_29 : x = 29
      · exact lv_tableIn (off := 1058) (tgt := 1091) hx hb dL_law_33 (by rw [v_29]; decide) (by rw [v_29]; decide) (by rw [v_29]; rfl) (by decide) (lc_slip hx hb hml hown hts hX hbl hL hce hsl hK hSt hR hi6 hl hP hD hS next)
      by_cases v_30 : x = 30
      · exact lv_tableIn (off := 1112) (tgt := 1145) hx hb dL_law_33 (by rw [v_30]; decide) (by rw [v_30]; decide) (by rw [v_30]; rfl) (by decide) (lc_drawn hx hb hml hown hts hX hbl hL hce hsl hK hSt hR hi6 hl hP hD hS next)
      by_cases v_31 : x = 31
      · exact lv_tableIn (off := 1155) (tgt := 1188) hx hb dL_law_33 (by rw [v_31]; decide) (by rw [v_31]; decide) (by rw [v_31]; rfl) (by decide) (lc_image hx hb hml hown hts hX hbl hL hce hsl hK hSt hR hi6 hl hP hD hS next)
      by_cases v_32 : x = 32
      · exact lv_tableIn (off := 1178) (tgt := 1211) hx hb dL_law_33 (by rw [v_32]; decide) (by rw [v_32]; decide) (by rw [v_32]; rfl) (by decide) (lc_restore hx hb hml hown hts hX hbl hL hce hsl hK hSt hR hi6 hl hP hD hS next)
      by_cases v_33 : x = 33
      · exact lv_tableIn (off := 1201) (tgt := 1234) hx hb dL_law_33 (by rw [v_33]; decide) (by rw [v_33]; decide) (by rw [v_33]; rfl) (by decide) (lc_kind hx hb hml hown hts hX hbl hL hce hsl hK hSt hR hi6 hl hP hD hS next)
      by_cases v_34 : x = 34
      · exact lv_tableIn (off := 1224) (tgt := 1257) hx hb dL_law_33 (by rw [v_34]; decide) (by rw [v_34]; decide) (by rw [v_34]; rfl) (by decide) (lc_as hx hb hml hown hts hX hbl hL hce hsl hK hSt hR hi6 hl hP hD hS next)
      by_cases v_35 : x = 35
      · exact lv_tableIn (off := 1257) (tgt := 1290) hx hb dL_law_33 (by rw [v_35]; decide) (by rw [v_35]; decide) (by rw [v_35]; rfl) (by decide) (lc_ask hx hb hml hown hts hX hbl hL hce hsl hK hSt hR hi6 hl hP hD hS next)
      by_cases v_36 : x = 36
      · exact lv_tableIn (off := 1290) (tgt := 1323) hx hb dL_law_33 (by rw [v_36]; decide) (by rw [v_36]; decide) (by rw [v_36]; rfl) (by decide) (lc_trace hx hb hml hown hts hX hbl hL hce hsl hK hSt hR hi6 hl hP hD hS next)
      by_cases v_37 : x = 37
      · exact lv_tableIn (off := 1313) (tgt := 1346) hx hb dL_law_33 (by rw [v_37]; decide) (by rw [v_37]; decide) (by rw [v_37]; rfl) (by decide) (lc_count hx hb hml hown hts hX hbl hL hce hsl hK hSt hR hi6 hl hP hD hS next)
      by_cases v_38 : x = 38
      · exact lv_tableIn (off := 1336) (tgt := 1369) hx hb dL_law_33 (by rw [v_38]; decide) (by rw [v_38]; decide) (by rw [v_38]; rfl) (by decide) (lc_status hx hb hml hown hts hX hbl hL hce hsl hK hSt hR hi6 hl hP hD hS next)
      have v_0T : ¬ Int32.toInt x = 0 := lv_neT v_0 rfl
      have v_1T : ¬ Int32.toInt x = 1 := lv_neT v_1 rfl
      have v_2T : ¬ Int32.toInt x = 2 := lv_neT v_2 rfl
      have v_3T : ¬ Int32.toInt x = 3 := lv_neT v_3 rfl
      have v_4T : ¬ Int32.toInt x = 4 := lv_neT v_4 rfl
      have v_5T : ¬ Int32.toInt x = 5 := lv_neT v_5 rfl
      have v_6T : ¬ Int32.toInt x = 6 := lv_neT v_6 rfl
      have v_7T : ¬ Int32.toInt x = 7 := lv_neT v_7 rfl
      have v_8T : ¬ Int32.toInt x = 8 := lv_neT v_8 rfl
      have v_9T : ¬ Int32.toInt x = 9 := lv_neT v_9 rfl
      have v_10T : ¬ Int32.toInt x = 10 := lv_neT v_10 rfl
      have v_11T : ¬ Int32.toInt x = 11 := lv_neT v_11 rfl
      have v_12T : ¬ Int32.toInt x = 12 := lv_neT v_12 rfl
      have v_13T : ¬ Int32.toInt x = 13 := lv_neT v_13 rfl
      have v_14T : ¬ Int32.toInt x = 14 := lv_neT v_14 rfl
      have v_15T : ¬ Int32.toInt x = 15 := lv_neT v_15 rfl
      have v_16T : ¬ Int32.toInt x = 16 := lv_neT v_16 rfl
      have v_17T : ¬ Int32.toInt x = 17 := lv_neT v_17 rfl
      have v_18T : ¬ Int32.toInt x = 18 := lv_neT v_18 rfl
      have v_19T : ¬ Int32.toInt x = 19 := lv_neT v_19 rfl
      have v_20T : ¬ Int32.toInt x = 20 := lv_neT v_20 rfl
      have v_21T : ¬ Int32.toInt x = 21 := lv_neT v_21 rfl
      have v_22T : ¬ Int32.toInt x = 22 := lv_neT v_22 rfl
      have v_23T : ¬ Int32.toInt x = 23 := lv_neT v_23 rfl
      have v_24T : ¬ Int32.toInt x = 24 := lv_neT v_24 rfl
      have v_25T : ¬ Int32.toInt x = 25 := lv_neT v_25 rfl
      have v_26T : ¬ Int32.toInt x = 26 := lv_neT v_26 rfl
      have v_27T : ¬ Int32.toInt x = 27 := lv_neT v_27 rfl
      have v_28T : ¬ Int32.toInt x = 28 := lv_neT v_28 rfl
      have v_29T : ¬ Int32.toInt x = 29 := lv_neT v_29 rfl
      have v_30T : ¬ Int32.toInt x = 30 := lv_neT v_30 rfl
      have v_31T : ¬ Int32.toInt x = 31 := lv_neT v_31 rfl
      have v_32T : ¬ Int32.toInt x = 32 := lv_neT v_32 rfl
      have v_33T : ¬ Int32.toInt x = 33 := lv_neT v_33 rfl
      have v_34T : ¬ Int32.toInt x = 34 := lv_neT v_34 rfl
      have v_35T : ¬ Int32.toInt x = 35 := lv_neT v_35 rfl
      have v_36T : ¬ Int32.toInt x = 36 := lv_neT v_36 rfl
      have v_37T : ¬ Int32.toInt x = 37 := lv_neT v_37 rfl
      have v_38T : ¬ Int32.toInt x = 38 := lv_neT v_38 rfl
      exact lv_tableOut (tgt := 1382) hx hb dL_law_33 (by omega) (by decide) (next w H locs hR hP hD hS)
end LLP
