/-- both worlds at first -/
def jw0 : lzSx × lzSm := ((xC0, fun _ _ => 0, fun _ _ => 0, fun _ _ => 0, fun _ _ => 0, fun _ _ _ => 0, fun _ _ => 0, fun _ _ _ => 0, fun _ => 0), (mB0, fun _ => 0))
def adJ (u : Nat → Nat → Nat → Nat) (h : Nat) (v : Nat → Nat) : Nat → Nat → Nat → Nat := fun a => if a = 11 then fun _ _ => h else if a = 12 then fun _ => v else u a
theorem rel_0 : RelS jw0 := by
  refine ⟨⟨0, 0, ⟨rfl, rfl, 0, by decide, rfl⟩, ⟨rfl, rfl, by decide⟩, ⟨rfl, rfl, by decide⟩, fun s hs => absurd hs (Nat.not_lt_zero _), fun v hv => absurd hv (Nat.not_lt_zero _), Or.inr ⟨rfl, rfl, rfl⟩⟩, ⟨rfl, rfl⟩, ⟨0, by decide, rfl, rfl, fun k hk => absurd hk (Nat.not_lt_zero _)⟩, ⟨0, by decide, rfl, rfl, rfl, fun k hk => absurd hk (Nat.not_lt_zero _)⟩, fun r hr => Or.inl ⟨?_, ?_⟩, ⟨0, 0, by decide, by decide, rfl, rfl, rfl, fun i hi => absurd hi (Nat.not_lt_zero _)⟩, fun k hk => Or.inl ⟨rfl, (show (decide ((0 : Int32) < 0) && decide ((0 : Int32) < 0)) = false by decide)⟩⟩
  · show fa_fill (fun _ => -1000000) (fun _ => 0) 8 r = -1000000
    exact fa_fill_in hr
  · rcases (show r = 0 ∨ r = 1 ∨ r = 2 ∨ r = 3 ∨ r = 4 ∨ r = 5 ∨ r = 6 ∨ r = 7 by omega) with h | h | h | h | h | h | h | h <;> subst h <;> rfl
set_option maxHeartbeats 8000000 in
set_option maxRecDepth 100000 in
theorem whole_start {p : Program} {e : Env} {s : State} {m : MethodId} {below : List Frame} {meth : Method} {c : Code} (l : Launch) (hflags : l.flags = flags0) {b L : Nat} {xs : Nat → Int32} (hL : L ≤ 384) (C0 : lw_At p s m meth c b L xs) : W p l e room_1 s m #[Value.ref b] below meth c s.heap [] 0 0 (lw_Z below #[Value.ref b] s) (entryFrame m ([Value.ref b] : List Value).toArray 4) := by
  obtain ⟨hx, hb, hr, hml, hown, hts, hX, hbl, hlocks, hgv⟩ := id C0
  have hb : c.code = cL_law := hb
  have hown : s.vm.findClass RL = some m.cls := hown
  have hA : ∀ q : Nat, s.heap.size ≤ q → (fun q : Nat => s.heap.size ≤ q) q := fun _ h => h
  have htb : ∀ w ∈ tables_1, w.before #[Value.ref b] s = true := fun w h => hts w (List.mem_append_right _ h)
  have hw : ∀ w ∈ wsL_law, w.before #[Value.ref b] s = true := fun w h => hts w (wsL_law_in w h)
  have hs := flat_of_before _ hgv
  have hi0 : (Cond.instantiable RX0 3).before #[Value.ref b] s = true := (htb (Cond.instantiable RX0 3) (List.mem_of_getElem? (i := 114) (by decide +kernel)))
  obtain ⟨c0, i0, k0⟩ := u_known (C := RX0) (T := TX0) (N := 3) (n := 3) hts inX0 hi0
  have hi1 : (Cond.instantiable RX1 14).before #[Value.ref b] s = true := (htb (Cond.instantiable RX1 14) (List.mem_of_getElem? (i := 48) (by decide +kernel)))
  obtain ⟨c1, i1, k1⟩ := u_known (C := RX1) (T := TX1) (N := 14) (n := 14) hts inX1 hi1
  have hi2 : (Cond.instantiable RX2 4).before #[Value.ref b] s = true := (htb (Cond.instantiable RX2 4) (List.mem_of_getElem? (i := 26) (by decide +kernel)))
  obtain ⟨c2, i2, k2⟩ := u_known (C := RX2) (T := TX2) (N := 4) (n := 4) hts inX2 hi2
  have hi3 : (Cond.instantiable RX3 13).before #[Value.ref b] s = true := (htb (Cond.instantiable RX3 13) (List.mem_of_getElem? (i := 16) (by decide +kernel)))
  obtain ⟨c3, i3, k3⟩ := u_known (C := RX3) (T := TX3) (N := 13) (n := 13) hts inX3 hi3
  have hi4 : (Cond.instantiable RX4 24).before #[Value.ref b] s = true := (htb (Cond.instantiable RX4 24) (List.mem_of_getElem? (i := 744) (by decide +kernel)))
  obtain ⟨c4, i4, k4⟩ := u_known (C := RX4) (T := TX4) (N := 24) (n := 24) hts inX4 hi4
  have haI : (Cond.arrayClass .int).before #[Value.ref b] s = true := (htb (Cond.arrayClass .int) (List.mem_of_getElem? (i := 46) (by decide +kernel)))
  obtain ⟨cI, kI, pI, fI1, fI2, fI3⟩ := Cond.arrayClass_spec haI
  have haJ : (Cond.arrayClass .long).before #[Value.ref b] s = true := (htb (Cond.arrayClass .long) (List.mem_of_getElem? (i := 177) (by decide +kernel)))
  obtain ⟨cJ, kJ, pJ, fJ1, fJ2, fJ3⟩ := Cond.arrayClass_spec haJ
  have haZ : (Cond.arrayClass .boolean).before #[Value.ref b] s = true := (htb (Cond.arrayClass .boolean) (List.mem_of_getElem? (i := 822) (by decide +kernel)))
  obtain ⟨cZ, kZ, pZ, fZ1, fZ2, fZ3⟩ := Cond.arrayClass_spec haZ
  have haD : (Cond.arrayOver (.object RX1)).before #[Value.ref b] s = true := (htb (Cond.arrayOver (.object RX1)) (List.mem_of_getElem? (i := 120) (by decide +kernel)))
  obtain ⟨pD, cD, kD, fD1, fD2, fD3, fD4, fD5⟩ := Cond.arrayOver_spec haD
  have haA : (Cond.arrayOver (.array .int)).before #[Value.ref b] s = true := (htb (Cond.arrayOver (.array .int)) (List.mem_of_getElem? (i := 24) (by decide +kernel)))
  obtain ⟨pA, cA, kA, fA1, fA2, fA3, fA4, fA5⟩ := arrayOverA_spec haA
  have hG0 : ∃ G : lzG, va_K G.1 lzC (lzT G) s := by
    refine ⟨((fun k => if k = 0 then c0 else if k = 1 then c1 else if k = 2 then c2 else if k = 3 then c3 else c4, fun k => if k = 0 then i0 else if k = 1 then i1 else if k = 2 then i2 else if k = 3 then i3 else i4), fun k => if k = 0 then cI else if k = 1 then cJ else if k = 2 then cZ else if k = 3 then cD else cA), ?_, ?_⟩
    · intro k q hq
      match k, hq with
      | 0, hq => cases hq; exact k0
      | 1, hq => cases hq; exact k1
      | 2, hq => cases hq; exact k2
      | 3, hq => cases hq; exact k3
      | 4, hq => cases hq; exact k4
      | k + 5, hq => simp [lzC] at hq
    · intro k q hq
      match k, hq with
      | 0, hq => cases hq; exact ⟨fun n z => ⟨(fun q h => by cases h), kI, fI2, pI, fI3⟩, fI1⟩
      | 1, hq => cases hq; exact ⟨fun n z => ⟨(fun q h => by cases h), kJ, fJ2, pJ, fJ3⟩, fJ1⟩
      | 2, hq => cases hq; exact ⟨fun n z => ⟨(fun q h => by cases h), kZ, fZ2, pZ, fZ3⟩, fZ1⟩
      | 3, hq => cases hq; exact ⟨fun n z => ⟨(fun q h => by cases h), kD, fD3, pD, fD4⟩, kD, pD, fD3, fD4, fD1, fD5⟩
      | 4, hq => cases hq; exact ⟨fun n z => ⟨(fun q h => by cases h), kA, fA3, pA, fA4⟩, fA5⟩
      | k + 5, hq => simp [lzT] at hq
  obtain ⟨G, hG⟩ := hG0
  have hn0 : va_Nw (.methodLinkNest RX1 68 yX3_isIn RX3) s := va_Nw.of rfl (htb (Cond.methodLinkNest RX1 68 yX3_isIn RX3) (List.mem_of_getElem? (i := 417) (by decide +kernel)))
  have hn1 : va_Nw (.methodLinkNest RX1 76 yX3_isOfKind RX3) s := va_Nw.of rfl (htb (Cond.methodLinkNest RX1 76 yX3_isOfKind RX3) (List.mem_of_getElem? (i := 465) (by decide +kernel)))
  have hn2 : va_Nw (.methodLinkNest RX1 84 yX3_isClickedBy RX3) s := va_Nw.of rfl (htb (Cond.methodLinkNest RX1 84 yX3_isClickedBy RX3) (List.mem_of_getElem? (i := 447) (by decide +kernel)))
  have hn3 : va_Nw (.methodLinkNest RX2 76 yX3_isIn RX3) s := va_Nw.of rfl (htb (Cond.methodLinkNest RX2 76 yX3_isIn RX3) (List.mem_of_getElem? (i := 259) (by decide +kernel)))
  have hn4 : va_Nw (.methodLinkNest RX3 27 yX2_init RX3) s := va_Nw.of rfl (htb (Cond.methodLinkNest RX3 27 yX2_init RX3) (List.mem_of_getElem? (i := 27) (by decide +kernel)))
  have hn5 : va_Nw (.methodLinkNest RX3 37 yX1_init RX3) s := va_Nw.of rfl (htb (Cond.methodLinkNest RX3 37 yX1_init RX3) (List.mem_of_getElem? (i := 49) (by decide +kernel)))
  have hn6 : va_Nw (.methodLinkNest RX0 24 yX1_init RX3) s := va_Nw.of rfl (htb (Cond.methodLinkNest RX0 24 yX1_init RX3) (List.mem_of_getElem? (i := 121) (by decide +kernel)))
  have hN : lzN s := by
    intro w hw9
    simp only [lzNl, List.mem_cons, List.not_mem_nil, or_false] at hw9
    rcases hw9 with h | h | h | h | h | h | h <;> subst h
    · exact hn0
    · exact hn1
    · exact hn2
    · exact hn3
    · exact hn4
    · exact hn5
    · exact hn6
  have hK : lzK G s := ⟨hG, hN⟩
  have hAO : va_AO RX1 s := va_AO.of haD
  have hAOA : va_AOA .int s := va_AOA.of haA
  have hsA : ∀ a : Nat, a < s.heap.size → ¬ (fun q : Nat => s.heap.size ≤ q) a := fun a h => Nat.not_le.mpr h
  obtain ⟨adK, adV, hSS, hTT⟩ := vk_Sof (N := 1) (s := s) (args := #[Value.ref b]) (tm := fun _ => Term.string RX2 81) (len := [5]) (byt := [[107, 101, 99, 117, 104]]) (A := fun q : Nat => s.heap.size ≤ q) (fun i hi => by have h0 : i = 0 := (by omega); subst h0; decide) (fun i hi => hs _ (by decide +kernel)) (fun i hi => hs _ (by decide +kernel)) (fun i hi => hs _ (by decide +kernel)) (fun i hi => by have h0 : i = 0 := (by omega); subst h0; exact hs _ (by decide +kernel)) (fun i hi j hj => by have h0 : i = 0 := (by omega); subst h0; have hj5 : j < 5 := hj; rcases (show j = 0 ∨ j = 1 ∨ j = 2 ∨ j = 3 ∨ j = 4 by omega) with h9 | h9 | h9 | h9 | h9 <;> subst h9 <;> exact hs _ (by decide +kernel)) (fun i j hi hj hne => absurd (show i = j by omega) hne) hsA
  obtain ⟨hs1, hs2, hs3, hs4⟩ := hSS.1 0 (by decide)
  have hz : va_Z "java/lang/String" "COMPACT_STRINGS" "Z" (.int 1) (fun q : Nat => s.heap.size ≤ q) s s.heap := va_Zof (htb (Cond.laysStatic "java/lang/String" "COMPACT_STRINGS" "Z") (List.mem_of_getElem? (i := 299) (by decide +kernel))) (htb (Cond.initialized "java/lang/String") (List.mem_of_getElem? (i := 8) (by decide +kernel))) (va_eqt (hs (Cond.eq (Term.static "java/lang/String" "COMPACT_STRINGS" "Z") (.int 1)) (by decide +kernel))) hsA
  have hSt : lzStr (adK 0) (adV 0) (fun q : Nat => s.heap.size ≤ q) s s.heap := ⟨hs1, hs2, hs3, hs4, hz, vk_R.of (A := #[Value.ref b]) (htb (Cond.stringRef RX2 81 "kecuh") (List.mem_of_getElem? (i := 285) (by decide +kernel))) (hTT 0 (by decide))⟩
  have hS : va_S (fun q : Nat => s.heap.size ≤ q) s.heap s.heap [] := va_S.rf
  have hP : va_P G.1 lzC [] s.heap := fun k q h => by simp at h
  have hD : va_D (fun q : Nat => s.heap.size ≤ q) ([] : va_W) := ⟨fun i j p q h => by simp at h, fun k q h => by simp at h⟩
  have hl := lv_entry ([.ref b]) (n := 4) (Nat.le_of_ble_eq_true rfl)
  rw [lg_entry_eq]
  generalize (lg_sl ([.ref b]) ++ List.replicate (4 - (lg_sl ([.ref b])).length) Slot.unset).toArray = ls at hl ⊢
  have hl : lv_has ls 4 [(0, .ref b)] := hl
  replace hP : va_P G.1 lzC ([] : va_W) s.heap := hP
  refine va_new (ci := 3) (fs := [.null, .null, .null, .int 0, .null, .int 0, .null, .null, .null, .null, .null, .int 0, .null]) (C := RX3) (T := TX3) (N := 13) hx hb hts inX3 tyX3 tyX3_ok hown (hw (Cond.classLink RL 7 RX3) (List.mem_of_getElem? (i := 0) (by decide +kernel))) hi3 (hw (Cond.initialized RX3) (List.mem_of_getElem? (i := 2) (by decide +kernel))) hK.1 hP hD hS hA rfl (fun j hj => by rcases (show j = 0 ∨ j = 1 ∨ j = 2 ∨ j = 3 ∨ j = 4 ∨ j = 5 ∨ j = 6 ∨ j = 7 ∨ j = 8 ∨ j = 9 ∨ j = 10 ∨ j = 11 ∨ j = 12 by omega) with rfl | rfl | rfl | rfl | rfl | rfl | rfl | rfl | rfl | rfl | rfl | rfl | rfl <;> rfl) (Nat.le_of_ble_eq_true rfl) (Nat.le_of_ble_eq_true rfl) dL_law_0 (fun q3 H hP hD hS => ?_)
  refine W.widen (k := 1) (n := 13) (Nat.le_of_ble_eq_true rfl) (Nat.le_of_ble_eq_true rfl) ?_
  refine lv_dup hx hb dL_law_3 rfl ?_
  have hFc := mk_free hD hS hA
  refine va_callv (va_runI (As := []) (rest := [.ref q3]) ⟨hx, hb, hml, hown, hw⟩ (c_X3_init l G q3 H.size) (cwI 0 hw gL_law_X3_init rfl rfl rfl (hw (Cond.initialized RX3) (List.mem_of_getElem? (i := 2) (by decide +kernel))) (hw (Cond.methodLink RL 9 yX3_init) (List.mem_of_getElem? (i := 6) (by decide +kernel))) (hw (Cond.instanceMethod yX3_init) (List.mem_of_getElem? (i := 7) (by decide +kernel))) rfl (by decide +kernel) ⟨Nat.le_of_ble_eq_true rfl, Nat.le_of_ble_eq_true rfl⟩) (mk_preA hK hAO hAOA (P_split hP).2 (D_split hD).2.1) rfl rfl hl.1 rfl (lv_room (Nat.le_of_ble_eq_true rfl)) dL_law_4 ⟨Nat.le_of_ble_eq_true rfl, Nat.le_of_ble_eq_true rfl⟩) hS (fun q _ h => hFc q h) hFc (fun u3 t9 H1 locs ht hvm hr_1 hB hz1 hk1 hS => ?_)
  obtain ⟨hP1, hD1⟩ := hB
  rw [ht] at hP1
  obtain ⟨hP, hD⟩ := mk_join hP hD hFc hk1 hP1 hD1
  have hu0 : u3 0 0 0 = q3 := hr_1
  clear ht hvm hz1 hk1 hP1 hD1 hFc
  generalize H1 = H at hP hS ⊢
  refine W.widen (k := 327) (n := 2747) (Nat.le_of_ble_eq_true rfl) (Nat.le_of_ble_eq_true rfl) ?_
  replace hP : va_P G.1 lzC (XW0 G u3) H := hP
  replace hD : va_D (fun q : Nat => s.heap.size ≤ q) (XW0 G u3) := hD
  refine lv_astore_n (lv' := [(1, .ref q3), (0, .ref b)]) hx hb dL_law_7 rfl hl (by decide) rfl (fun ls hl => ?_)
  refine va_new (ci := 4) (fs := [.int 0, .int 0, .null, .null, .null, .null, .null, .null, .null, .int 0, .null, .int 0, .int 0, .int 0, .int 0, .int 0, .int 0, .int 0, .int 0, .null, .null, .null, .null, .int 0]) (C := RX4) (T := TX4) (N := 24) hx hb hts inX4 tyX4 tyX4_ok hown (hw (Cond.classLink RL 10 RX4) (List.mem_of_getElem? (i := 3) (by decide +kernel))) hi4 (hw (Cond.initialized RX4) (List.mem_of_getElem? (i := 5) (by decide +kernel))) hK.1 hP hD hS hA rfl (fun j hj => by rcases (show j = 0 ∨ j = 1 ∨ j = 2 ∨ j = 3 ∨ j = 4 ∨ j = 5 ∨ j = 6 ∨ j = 7 ∨ j = 8 ∨ j = 9 ∨ j = 10 ∨ j = 11 ∨ j = 12 ∨ j = 13 ∨ j = 14 ∨ j = 15 ∨ j = 16 ∨ j = 17 ∨ j = 18 ∨ j = 19 ∨ j = 20 ∨ j = 21 ∨ j = 22 ∨ j = 23 by omega) with rfl | rfl | rfl | rfl | rfl | rfl | rfl | rfl | rfl | rfl | rfl | rfl | rfl | rfl | rfl | rfl | rfl | rfl | rfl | rfl | rfl | rfl | rfl | rfl <;> rfl) (Nat.le_of_ble_eq_true rfl) (Nat.le_of_ble_eq_true rfl) dL_law_8 (fun q4 H hP hD hS => ?_)
  refine W.widen (k := 328) (n := 2771) (Nat.le_of_ble_eq_true rfl) (Nat.le_of_ble_eq_true rfl) ?_
  refine lv_dup hx hb dL_law_11 rfl ?_
  have hFc := mk_free hD hS hA
  refine va_callv (va_runI (As := []) (rest := [.ref q4]) ⟨hx, hb, hml, hown, hw⟩ (c_X4_init l G q4 H.size) (cwI 0 hw gL_law_X4_init rfl rfl rfl (hw (Cond.initialized RX4) (List.mem_of_getElem? (i := 5) (by decide +kernel))) (hw (Cond.methodLink RL 12 yX4_init) (List.mem_of_getElem? (i := 74) (by decide +kernel))) (hw (Cond.instanceMethod yX4_init) (List.mem_of_getElem? (i := 75) (by decide +kernel))) rfl (by decide +kernel) ⟨Nat.le_of_ble_eq_true rfl, Nat.le_of_ble_eq_true rfl⟩) (mk_pre hK (P_split hP).2 (D_split hD).2.1) rfl rfl hl.1 rfl (lv_room (Nat.le_of_ble_eq_true rfl)) dL_law_12 ⟨Nat.le_of_ble_eq_true rfl, Nat.le_of_ble_eq_true rfl⟩) hS (fun q _ h => hFc q h) hFc (fun u4 t9 H1 locs ht hvm hr_1 hB hz1 hk1 hS => ?_)
  obtain ⟨hP1, hD1⟩ := hB
  rw [ht] at hP1
  obtain ⟨hP, hD⟩ := mk_join hP hD hFc hk1 hP1 hD1
  clear ht hvm hz1 hk1 hP1 hD1 hFc
  generalize H1 = H at hP hS ⊢
  refine W.widen (k := 340) (n := 5110) (Nat.le_of_ble_eq_true rfl) (Nat.le_of_ble_eq_true rfl) ?_
  replace hP : va_P G.1 lzC (JW G (adJ u3 q4 u4) jw0) H := hP
  replace hD : va_D (fun q : Nat => s.heap.size ≤ q) (JW G (adJ u3 q4 u4) jw0) := hD
  refine lv_astore_n (lv' := [(2, .ref q4), (1, .ref q3), (0, .ref b)]) hx hb dL_law_15 rfl hl (by decide) rfl (fun ls hl => ?_)
  refine lv_iconst (v := 0) hx hb dL_law_16 (by decide) ?_
  refine lv_istore_n (lv' := [(3, .int 0), (2, .ref q4), (1, .ref q3), (0, .ref b)]) hx hb dL_law_17 rfl hl (by decide) rfl (fun ls hl => ?_)
  rw [← hu0] at hl
  exact law_loop (ad := adJ u3 q4 u4) hr hlocks hx hb hml hown hw hX hbl hL (Nat.le_of_ble_eq_true rfl) (Nat.le_of_ble_eq_true rfl) hK hSt (L + 7) 0 (by omega) (by omega) jw0 rel_0 H _ ls hl hP hD hS
