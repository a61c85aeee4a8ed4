/-! the row of acts -/
theorem mk_pre {s : State} {H : Heap} {As : List Value} {G : lzG} {ws : va_W} {A : Nat → Prop} (hK : lzK G s) (hP : va_P G.1 lzC ws H) (hD : va_D A ws) : PreS s H (va_Pc As (fun U => U.heap.size = H.size ∧ rwP G ws U)) As :=
  ⟨fun a U g mk q => ⟨q.1, q.2.1, q.2.2.1, q.2.2.2.1.calling g mk a, q.2.2.2.2⟩, fun U hU hW => ⟨rfl, by rw [hU], by rw [hU]; exact hP, hK.warm hW, hD.weaken (fun _ _ _ _ => trivial)⟩⟩
theorem mk_preO {s : State} {H : Heap} {As : List Value} {G : lzG} {ws : va_W} {A : Nat → Prop} (hK : lzK G s) (hO : va_AO RX1 s) (hP : va_P G.1 lzC ws H) (hD : va_D A ws) : PreS s H (va_Pc As (fun U => U.heap.size = H.size ∧ rwP G ws U ∧ va_AO RX1 U)) As :=
  ⟨fun a U g mk q => ⟨q.1, q.2.1, ⟨q.2.2.1.1, q.2.2.1.2.1.calling g mk a, q.2.2.1.2.2⟩, va_AO.moved (u := U) (U := U.calling g mk a) (Vm.Alike.refl U.vm) q.2.2.2⟩, fun U hU hW => ⟨rfl, by rw [hU], ⟨by rw [hU]; exact hP, hK.warm hW, hD.weaken (fun _ _ _ _ => trivial)⟩, va_AO.moved hW.alike hO⟩⟩
theorem mk_preA {s : State} {H : Heap} {As : List Value} {G : lzG} {ws : va_W} {A : Nat → Prop} (hK : lzK G s) (hO : va_AO RX1 s) (hOA : va_AOA .int s) (hP : va_P G.1 lzC ws H) (hD : va_D A ws) : PreS s H (va_Pc As (fun U => U.heap.size = H.size ∧ rwP G ws U ∧ va_AO RX1 U ∧ va_AOA .int U)) As :=
  ⟨fun a U g mk q => ⟨q.1, q.2.1, ⟨q.2.2.1.1, q.2.2.1.2.1.calling g mk a, q.2.2.1.2.2⟩, va_AO.moved (u := U) (U := U.calling g mk a) (Vm.Alike.refl U.vm) q.2.2.2.1, va_AOA.moved (u := U) (U := U.calling g mk a) (Vm.Alike.refl U.vm) q.2.2.2.2⟩, fun U hU hW => ⟨rfl, by rw [hU], ⟨by rw [hU]; exact hP, hK.warm hW, hD.weaken (fun _ _ _ _ => trivial)⟩, va_AO.moved hW.alike hO, va_AOA.moved hW.alike hOA⟩⟩
/-- the new door ahead of the doors before it, and back -/
theorem dr_perm {x y : Nat × va_E} {T N : va_W} (_ : Nat) : (([x, y] ++ T) ++ N).Perm (x :: y :: (N ++ T)) := (List.perm_append_comm (l₁ := T) (l₂ := N)).cons y |>.cons x
theorem dr_back {x y : Nat × va_E} {T N : va_W} (_ : Nat) : (x :: y :: (N ++ T)).Perm ([x, y] ++ (T ++ N)) := (List.perm_append_comm (l₁ := N) (l₂ := T)).cons y |>.cons x
set_option maxHeartbeats 4000000 in
set_option maxRecDepth 100000 in
theorem c_X0_init (l : Launch) (G : lzG) (h sz : Nat) : Met l yX0_init wsX0_init ({ frames := 2, cells := 265, slots := 1920, locals := 80 }) (va_Pc [.ref h] (fun U => U.heap.size = sz ∧ rwP G ([(h, .inr (0, [.null, .int 0, .int 0]))] : va_W) U ∧ va_AO RX1 U)) (va_Qv (S := Nat × ((Nat → Nat) × (Nat → Nat → Nat))) (fun _ => True) (fun u t => va_P G.1 lzC (lzAc h (fun _ => u.1) (fun _ => 0) ++ (lzQ G 3 u.1 24 (fun i => some (u.2.1 i)) ++ ringW G u.2.1 u.2.2 (fun _ _ => 0) (fun _ _ _ => 0))) t.heap ∧ va_D (va_A ([(h, .inr (0, [.null, .int 0, .int 0]))] : va_W) sz) (lzAc h (fun _ => u.1) (fun _ => 0) ++ (lzQ G 3 u.1 24 (fun i => some (u.2.1 i)) ++ ringW G u.2.1 u.2.2 (fun _ _ => 0) (fun _ _ _ => 0)))) (va_A ([(h, .inr (0, [.null, .int 0, .int 0]))] : va_W) sz)) 265 1920 (va_A ([(h, .inr (0, [.null, .int 0, .int 0]))] : va_W) sz) := by
  refine Met.ofW (cc := cX0_init) (maxL := 2) (ret := none) (by decide) rfl ?_
  intro p e s m args below meth c s₁ B hml hv
  obtain ⟨rfl, hsz, ⟨hP, hK, hD0⟩, hAO⟩ := hv
  have hx := B.exec
  have hb := B.bytes
  have hr := B.returns
  have hts := atoms_spec (ws := wsX0_init) B.pre
  have hown : s.vm.findClass RX0 = some m.cls := findClass_of_methodNamed B.named
  have hlocks := B.notSynchronized
  have hin : meth.name = "<init>" := (name_of_methodNamed B.named B.method).1
  have hu : ∀ w ∈ wsX00, w.before #[.ref h] s = true := fun w h9 => hts w (List.mem_cons_of_mem _ (List.mem_append_left _ (List.mem_append_right _ h9)))
  have hu1 : ∀ w ∈ wsX10, w.before #[.ref h] s = true := fun w h9 => hts w (List.mem_cons_of_mem _ (List.mem_append_right _ h9))
  have hw1 := hts (.methodLink RX0 3 objectInit) (List.mem_of_getElem? (i := 1) rfl)
  have hw2 := hts (.instanceMethod objectInit) (List.mem_of_getElem? (i := 2) rfl)
  have hw3 := hts (.code objectInit ⟨#[0xb1]⟩ 1 none) (List.mem_of_getElem? (i := 3) rfl)
  have hw4 := hts (.classLink RX0 9 RX1) (List.mem_of_getElem? (i := 4) rfl)
  have hw5 := hts (.fieldLink RX0 11 "LampSquares$Acts" "ahead" "[LLampSquares$Door;") (List.mem_of_getElem? (i := 5) rfl)
  have hw6 := hts (.fieldLink RX0 17 "LampSquares$Acts" "next" "I") (List.mem_of_getElem? (i := 6) rfl)
  have hw7 := hts (.fieldLink RX0 21 "LampSquares$Acts" "kept" "I") (List.mem_of_getElem? (i := 7) rfl)
  have hw8 := hts (.instantiable RX1 14) (List.mem_of_getElem? (i := 8) rfl)
  have hw9 := hts (.initialized RX1) (List.mem_of_getElem? (i := 9) rfl)
  have hw10 := hts (.instanceMethod yX1_init) (List.mem_of_getElem? (i := 10) rfl)
  subst hsz
  have hD := hD0.self (sz := s.heap.size)
  generalize hAe : va_A ([(h, .inr (0, [.null, .int 0, .int 0]))] : va_W) s.heap.size = A at hD ⊢
  have hA : ∀ q : Nat, s.heap.size ≤ q → A q := fun q h9 => by rw [← hAe]; exact Or.inr h9
  have hS : va_S A s.heap s.heap [] := va_S.rf
  have hP : va_P G.1 lzC ([(h, .inr (0, [.null, .int 0, .int 0]))] : va_W) s.heap := hP
  have hl := lv_entry ([.ref h]) (n := 2) (Nat.le_of_ble_eq_true rfl)
  rw [lg_entry_eq]
  generalize (lg_sl ([.ref h]) ++ List.replicate (2 - (lg_sl ([.ref h])).length) Slot.unset).toArray = ls at hl ⊢
  have hl : lv_has ls 2 [(0, .ref h)] := hl
  have loop : ∀ (n k : Nat), 24 - k < n → k ≤ 24 → ∀ (a1 : Nat) (rh : Nat → Nat) (rq : Nat → Nat → Nat) (H : Heap) (locs : List Loc) (ls : Array Slot), va_P G.1 lzC (([(h, .inr (0, [.ref a1, .int 0, .int 0])), (a1, .inl (G.2 3, 24, .inr (.inr (.inr (.inr (fstR rh k))))))] : va_W) ++ ringP G rh rq k) H → va_D A (([(h, .inr (0, [.ref a1, .int 0, .int 0])), (a1, .inl (G.2 3, 24, .inr (.inr (.inr (.inr (fstR rh k))))))] : va_W) ++ ringP G rh rq k) → va_S A s.heap H locs → lv_has ls 2 [(1, .int (nI k)), (0, .ref h)] → W p l e ({ frames := 2, cells := 265, slots := 1920, locals := 80 }) s m (([.ref h] : List Value).toArray) below meth c H locs (1 + 11 * k) (24 + 79 * k) (MQ below (va_Qv (S := Nat × ((Nat → Nat) × (Nat → Nat → Nat))) (fun _ => True) (fun u t => va_P G.1 lzC (lzAc h (fun _ => u.1) (fun _ => 0) ++ (lzQ G 3 u.1 24 (fun i => some (u.2.1 i)) ++ ringW G u.2.1 u.2.2 (fun _ _ => 0) (fun _ _ _ => 0))) t.heap ∧ va_D A (lzAc h (fun _ => u.1) (fun _ => 0) ++ (lzQ G 3 u.1 24 (fun i => some (u.2.1 i)) ++ ringW G u.2.1 u.2.2 (fun _ _ => 0) (fun _ _ _ => 0)))) A) (([.ref h] : List Value).toArray) s 265 1920 A) (F0 m 25 ls []) := by
    intro n
    induction n with
    | zero => intro k hn; exact absurd hn (Nat.not_lt_zero _)
    | succ n ih =>
      intro k hn hk a1 rh rq H locs ls hP hD hS hl
      refine lv_iload_n hx hb dX0_init_25 rfl (lv_at hl 0 rfl) ?_
      refine lv_bipush (v := 24) hx hb dX0_init_26 (by decide) ?_
      refine lv_icmp_ge (tgt := 50) hx hb dX0_init_28 (by decide) (fun c_28 => ?_) (fun c_28 => ?_)
      · have hk2 : 24 ≤ k := lz_ge (N := 24) rfl c_28 (by omega) (by omega)
        have hk3 : k = 24 := by omega
        subst hk3
        have hP9 := P_refs (X := ([(h, .inr (0, [.ref a1, .int 0, .int 0]))] : va_W)) (g := fun i => some (rh i)) hP (fun j hj => if_pos hj)
        have hD9 := D_refs (X := ([(h, .inr (0, [.ref a1, .int 0, .int 0]))] : va_W)) (y := .inl (G.2 3, 24, .inr (.inr (.inr (.inr (fun i => some (rh i))))))) hD
        exact W.vret hx hb hr (fun t ht hW => ⟨⟨(a1, (rh, rq)), rfl, trivial, by rw [ht]; exact hP9, hD9⟩, hS.F ht⟩) hS.2.2 dX0_init_50
      · have hk2 : k < 24 := lz_lt (N := 24) rfl c_28 (by omega) (by omega)
        refine lv_aload_n hx hb dX0_init_31 rfl (lv_at hl 1 rfl) ?_
        refine lz_get (G := G) (ci := 0) (v := .ref a1) (C := RX0) (T := TX0) (N := 3) hx hb hu (fun _ h9 => h9) hown hK hP 0 rfl rfl 0 (by decide) hw5 rfl rfl dX0_init_32 ?_
        refine lv_iload_n hx hb dX0_init_35 rfl (lv_at hl 0 rfl) ?_
        refine va_new (ci := 1) (fs := [.int 0, .int 0, .int 0, .int 0, .null, .null, .null, .null, .null, .null, .null, .null, .null, .null]) (C := RX1) (T := TX1) (N := 14) hx hb hu1 (fun _ h9 => h9) tyX1 tyX1_ok hown hw4 hw8 hw9 hK.1 hP hD hS hA rfl (fun j hj => by rcases (show j = 0 ∨ j = 1 ∨ j = 2 ∨ j = 3 ∨ j = 4 ∨ j = 5 ∨ j = 6 ∨ j = 7 ∨ j = 8 ∨ j = 9 ∨ j = 10 ∨ j = 11 ∨ j = 12 ∨ j = 13 by omega) with rfl | rfl | rfl | rfl | rfl | rfl | rfl | rfl | rfl | rfl | rfl | rfl | rfl | rfl <;> rfl) (by show 1 + 11 * k + 1 ≤ 265; omega) (by show 24 + 79 * k + 14 ≤ 1920; omega) dX0_init_36 (fun q H hP hD hS => ?_)
        refine lv_dup hx hb dX0_init_39 rfl ?_
        have hFc := mk_free hD hS hA
        refine va_callv (va_runIN (As := []) (rest := [.ref q, .int (nI k), .ref a1]) ⟨hx, hb, hml, hown, hts⟩ (c_X1_init l G q H.size) ⟨va_cnB (host := RX3) 0 hts gX0_init_X1_init_n24 rfl rfl rfl (hK.2 _ (List.mem_of_getElem? (i := 6) rfl)) hw9 (by decide +kernel) ⟨Nat.le_of_ble_eq_true rfl, Nat.le_of_ble_eq_true rfl⟩, rfl, hw10⟩ (mk_pre hK (P_split hP).2 (D_split hD).2.1) rfl rfl hl.1 rfl (lv_room (Nat.le_of_ble_eq_true rfl)) dX0_init_40 ⟨by show 1 + 11 * k + 1 + 10 ≤ 265; omega, by show 24 + 79 * k + 14 + 65 ≤ 1920; omega⟩) hS (fun q _ h => hFc q h) hFc (fun u t9 H1 locs ht hvm hr_1 hB hz1 hk1 hS => ?_)
        obtain ⟨hP1, hD1⟩ := hB
        rw [ht] at hP1
        obtain ⟨hP, hD⟩ := mk_join hP hD hFc hk1 hP1 hD1
        clear ht hvm hz1 hk1 hP1 hD1
        refine va_astq (r := (RX1, TX1, 14)) (ci := 1) hx hb hK.1 (P_perm (dr_perm k) hP) (D_perm (dr_perm k) hD) hS 1 3 2 rfl rfl rfl rfl (vp_in_nI hk2 (by decide)) dX0_init_43 (fun H locs hP hD hS => ?_)
        replace hP : va_P G.1 lzC ((h, .inr (0, [.ref a1, .int 0, .int 0])) :: (a1, .inl (G.2 3, 24, .inr (.inr (.inr (.inr (fstR (va_up rh k q) (k + 1))))))) :: (lzDoor G q u (fun _ => 0) (fun _ _ => 0) ++ ringP G rh rq k)) H := by
          have h9 := hP
          rw [nI_clamp (by omega), fstR_s] at h9
          exact h9
        replace hD : va_D A ((h, .inr (0, [.ref a1, .int 0, .int 0])) :: (a1, .inl (G.2 3, 24, .inr (.inr (.inr (.inr (fstR (va_up rh k q) (k + 1))))))) :: (lzDoor G q u (fun _ => 0) (fun _ _ => 0) ++ ringP G rh rq k)) := by
          have h9 := hD
          rw [nI_clamp (by omega), fstR_s] at h9
          exact h9
        replace hP := P_perm (dr_back k) hP
        replace hD := D_perm (dr_back k) hD
        refine lv_iinc (v := nI (k + 1)) (lv' := [(1, .int (nI (k + 1))), (0, .ref h)]) hx hb dX0_init_44 hl (k := 0) rfl (nI_1 _) (by decide) rfl (fun ls hl => ?_)
        refine lv_goto (tgt := 25) hx hb dX0_init_47 (by decide) ?_
        refine W.widen (k := 1 + 11 * (k + 1)) (n := 24 + 79 * (k + 1)) (by omega) (by omega) ?_
        exact ih (k + 1) (by omega) (by omega) a1 (va_up rh k q) (va_up rq k u) H locs ls (by rw [ringP_s]; exact hP) (by rw [ringP_s]; exact hD) hS hl
  refine lv_aload_n hx hb dX0_init_0 rfl (lv_at hl 0 rfl) ?_
  refine W.objInit hx hb hown hw1 hw2 hw3 rfl (by rw [hml]; exact hl.1) rfl dX0_init_1 (Nat.le_of_ble_eq_true rfl) (Nat.le_of_ble_eq_true rfl) ?_
  refine W.eq (g2 := F0 m 4 ls []) rfl ?_
  refine lv_aload_n hx hb dX0_init_4 rfl (lv_at hl 0 rfl) ?_
  refine lv_bipush (v := 24) hx hb dX0_init_5 (by decide) ?_
  refine lz_newd (n := 24) hx hb hown hw4 hAO hK hP hD hS hA (by decide) (Nat.le_of_ble_eq_true rfl) (Nat.le_of_ble_eq_true rfl) dX0_init_7 (fun a1 H hP hD hS => ?_)
  refine W.widen (k := 1) (n := 24) (Nat.le_of_ble_eq_true rfl) (Nat.le_of_ble_eq_true rfl) ?_
  refine lz_putR (G := G) (ci := 0) (C := RX0) (T := TX0) (N := 3) (ty := .array (.object RX1)) (v := a1) hx hb hu (fun _ h9 => h9) tyX0 tyX0_ok nmX0 hown hK hP hD hS 0 rfl rfl 0 (by decide) hw5 rfl rfl hin rfl (by decide +kernel) rfl rfl (Nat.le_of_ble_eq_true rfl) dX0_init_10 ([(h, .inr (0, [.ref a1, .int 0, .int 0])), (a1, .inl (G.2 3, 24, .inr (.inr (.inr (.inr (fun _ => none))))))] : va_W) rfl (fun H locs hP hD hS => ?_)
  refine lv_aload_n hx hb dX0_init_13 rfl (lv_at hl 0 rfl) ?_
  refine lv_iconst (v := 0) hx hb dX0_init_14 (by decide) ?_
  refine lz_put (G := G) (ci := 0) (C := RX0) (T := TX0) (N := 3) hx hb hu (fun _ h9 => h9) tyX0 tyX0_ok nmX0 hown hK hP hD hS 0 rfl rfl 1 (by decide) hw6 rfl rfl (by decide +kernel) (Nat.le_of_ble_eq_true rfl) dX0_init_15 ([(h, .inr (0, [.ref a1, .int 0, .int 0])), (a1, .inl (G.2 3, 24, .inr (.inr (.inr (.inr (fun _ => none))))))] : va_W) rfl (fun H locs hP hD hS => ?_)
  refine lv_aload_n hx hb dX0_init_18 rfl (lv_at hl 0 rfl) ?_
  refine lv_iconst (v := 0) hx hb dX0_init_19 (by decide) ?_
  refine lz_put (G := G) (ci := 0) (C := RX0) (T := TX0) (N := 3) hx hb hu (fun _ h9 => h9) tyX0 tyX0_ok nmX0 hown hK hP hD hS 0 rfl rfl 2 (by decide) hw7 rfl rfl (by decide +kernel) (Nat.le_of_ble_eq_true rfl) dX0_init_20 ([(h, .inr (0, [.ref a1, .int 0, .int 0])), (a1, .inl (G.2 3, 24, .inr (.inr (.inr (.inr (fun _ => none))))))] : va_W) rfl (fun H locs hP hD hS => ?_)
  refine lv_iconst (v := 0) hx hb dX0_init_23 (by decide) ?_
  refine lv_istore_n (lv' := [(1, .int 0), (0, .ref h)]) hx hb dX0_init_24 rfl hl (by decide) rfl (fun ls hl => ?_)
  exact loop 25 0 (by decide) (by decide) a1 (fun _ => 0) (fun _ _ => 0) H locs ls (by rw [fstR_0]; exact hP) (by rw [fstR_0]; exact hD) hS hl
