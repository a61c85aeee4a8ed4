/-! the class's constructor -/
theorem P_as {D : va_G} {cl : List vw_C} {X T N : va_W} {H : Heap} (h : va_P D cl ((X ++ T) ++ N) H) : va_P D cl (X ++ (T ++ N)) H := by rwa [List.append_assoc] at h
theorem D_as {A : Nat → Prop} {X T N : va_W} (h : va_D A ((X ++ T) ++ N)) : va_D A (X ++ (T ++ N)) := by rwa [List.append_assoc] at h
theorem im_fwd {X T N : va_W} {y : Nat × va_E} : (((X ++ T) ++ [y]) ++ N).Perm (y :: (N ++ (X ++ T))) := by
  rw [List.append_assoc]
  exact List.perm_append_comm
theorem im_bwd {X T N : va_W} {y : Nat × va_E} : (y :: (N ++ (X ++ T))).Perm ((X ++ (T ++ N)) ++ [y]) := by
  refine List.Perm.trans ?_ (List.perm_append_singleton y _).symm
  refine List.Perm.cons y ?_
  rw [← List.append_assoc X T N]
  exact List.perm_append_comm
theorem mapI_2 {α : Type} (g : Nat → List α) : mapI g 2 = g 0 ++ g 1 := by
  rw [mapI_s, mapI_s]
  rfl
/-- where the class's cells lie -/
def adX (h : Nat) (xq tq hq sq : Nat → Nat) (aq : Nat) (rh : Nat → Nat) (rq : Nat → Nat → Nat) (ih mh : Nat → Nat) (mq : Nat → Nat → Nat) : Nat → Nat → Nat → Nat := fun a => if a = 0 then fun _ _ => h else if a = 1 then fun _ => xq else if a = 2 then fun _ => tq else if a = 3 then fun _ => hq else if a = 4 then fun _ => sq else if a = 5 then fun _ _ => aq else if a = 6 then fun _ => rh else if a = 7 then rq else if a = 8 then fun _ => ih else if a = 9 then fun _ => mh else mq
/-- the class's numbers at first -/
def xC0 : Nat → Nat → Int32 := fun k => if k = 2 then fa_fill (fun _ => -1000000) (fun _ => 0) 8 else fun _ => 0
def XW0 (G : lzG) (u : Nat → Nat → Nat → Nat) : va_W := XW G u xC0 (fun _ _ => 0) (fun _ _ => 0) (fun _ _ => 0) (fun _ _ => 0) (fun _ _ _ => 0) (fun _ _ => 0) (fun _ _ _ => 0) (fun _ => 0)
set_option maxHeartbeats 8000000 in
set_option maxRecDepth 100000 in
theorem c_X3_init (l : Launch) (G : lzG) (h sz : Nat) : Met l yX3_init wsX3_init ({ frames := 3, cells := 326, slots := 2734, locals := 120 }) (va_Pc [.ref h] (fun U => U.heap.size = sz ∧ rwP G ([(h, .inr (3, [.null, .null, .null, .int 0, .null, .int 0, .null, .null, .null, .null, .null, .int 0, .null]))] : va_W) U ∧ va_AO RX1 U ∧ va_AOA .int U)) (va_Qv (S := Nat → Nat → Nat → Nat) (fun u => u 0 0 0 = h) (fun u t => va_P G.1 lzC (XW0 G u) t.heap ∧ va_D (va_A ([(h, .inr (3, [.null, .null, .null, .int 0, .null, .int 0, .null, .null, .null, .null, .null, .int 0, .null]))] : va_W) sz) (XW0 G u)) (va_A ([(h, .inr (3, [.null, .null, .null, .int 0, .null, .int 0, .null, .null, .null, .null, .null, .int 0, .null]))] : va_W) sz)) 326 2734 (va_A ([(h, .inr (3, [.null, .null, .null, .int 0, .null, .int 0, .null, .null, .null, .null, .null, .int 0, .null]))] : va_W) sz) := by
  refine Met.ofW (cc := cX3_init) (maxL := 1) (ret := none) (by decide) rfl ?_
  intro p e s m args below meth c s₁ B hml hv
  obtain ⟨rfl, hsz, ⟨hP, hK, hD0⟩, hAO, hAOA⟩ := hv
  have hx := B.exec
  have hb := B.bytes
  have hr := B.returns
  have hts := atoms_spec (ws := wsX3_init) B.pre
  have hown : s.vm.findClass RX3 = some m.cls := findClass_of_methodNamed B.named
  have hlocks := B.notSynchronized
  have hin : meth.name = "<init>" := (name_of_methodNamed B.named B.method).1
  have hu0 : ∀ w ∈ wsX00, w.before #[.ref h] s = true := fun w h9 => hts w (List.mem_cons_of_mem _ (List.mem_append_right _ h9))
  have hu1 : ∀ w ∈ wsX10, w.before #[.ref h] s = true := fun w h9 => hts w (List.mem_cons_of_mem _ (List.mem_append_left _ (List.mem_append_right _ h9)))
  have hu2 : ∀ w ∈ wsX20, w.before #[.ref h] s = true := fun w h9 => hts w (List.mem_cons_of_mem _ (List.mem_append_left _ (List.mem_append_left _ (List.mem_append_right _ h9))))
  have hu : ∀ w ∈ wsX30, w.before #[.ref h] s = true := fun w h9 => hts w (List.mem_cons_of_mem _ (List.mem_append_left _ (List.mem_append_left _ (List.mem_append_left _ (List.mem_append_right _ h9)))))
  have hw1 := hts (.methodLink RX3 1 objectInit) (List.mem_of_getElem? (i := 1) rfl)
  have hw2 := hts (.instanceMethod objectInit) (List.mem_of_getElem? (i := 2) rfl)
  have hw3 := hts (.code objectInit ⟨#[0xb1]⟩ 1 none) (List.mem_of_getElem? (i := 3) rfl)
  have hw4 := hts (.classLink RX3 9 "[[I") (List.mem_of_getElem? (i := 4) rfl)
  have hw5 := hts (.arrayClass .int) (List.mem_of_getElem? (i := 5) rfl)
  have hw6 := hts (.fieldLink RX3 11 "LampSquares" "items" "[[I") (List.mem_of_getElem? (i := 6) rfl)
  have hw7 := hts (.fieldLink RX3 14 "LampSquares" "lanes" "[I") (List.mem_of_getElem? (i := 7) rfl)
  have hw8 := hts (.fieldLink RX3 18 "LampSquares" "lengths" "[I") (List.mem_of_getElem? (i := 8) rfl)
  have hw9 := hts (.fieldLink RX3 21 "LampSquares" "finding" "I") (List.mem_of_getElem? (i := 9) rfl)
  have hw10 := hts (.classLink RX3 25 RX2) (List.mem_of_getElem? (i := 10) rfl)
  have hw11 := hts (.instantiable RX2 4) (List.mem_of_getElem? (i := 11) rfl)
  have hw12 := hts (.initialized RX2) (List.mem_of_getElem? (i := 12) rfl)
  have hw13 := hts (.fieldLink RX3 28 "LampSquares" "tape" "LLampSquares$Tape;") (List.mem_of_getElem? (i := 13) rfl)
  have hw14 := hts (.fieldLink RX3 32 "LampSquares" "latestFault" "I") (List.mem_of_getElem? (i := 14) rfl)
  have hw15 := hts (.classLink RX3 35 RX1) (List.mem_of_getElem? (i := 15) rfl)
  have hw16 := hts (.instantiable RX1 14) (List.mem_of_getElem? (i := 16) rfl)
  have hw17 := hts (.initialized RX1) (List.mem_of_getElem? (i := 17) rfl)
  have hw18 := hts (.fieldLink RX3 38 "LampSquares" "here" "LLampSquares$Door;") (List.mem_of_getElem? (i := 18) rfl)
  have hw19 := hts (.fieldLink RX3 42 "LampSquares" "spare" "LLampSquares$Door;") (List.mem_of_getElem? (i := 19) rfl)
  have hw20 := hts (.classLink RX3 45 RX0) (List.mem_of_getElem? (i := 20) rfl)
  have hw21 := hts (.instantiable RX0 3) (List.mem_of_getElem? (i := 21) rfl)
  have hw22 := hts (.initialized RX0) (List.mem_of_getElem? (i := 22) rfl)
  have hw23 := hts (.fieldLink RX3 48 "LampSquares" "acts" "LLampSquares$Acts;") (List.mem_of_getElem? (i := 23) rfl)
  have hw24 := hts (.fieldLink RX3 52 "LampSquares" "images" "[LLampSquares$Door;") (List.mem_of_getElem? (i := 24) rfl)
  have hw25 := hts (.fieldLink RX3 56 "LampSquares" "traced" "[I") (List.mem_of_getElem? (i := 25) rfl)
  have hw26 := hts (.fieldLink RX3 59 "LampSquares" "tracedCount" "I") (List.mem_of_getElem? (i := 26) rfl)
  have hw27 := hts (.arrayClass .long) (List.mem_of_getElem? (i := 27) rfl)
  have hw28 := hts (.fieldLink RX3 62 "LampSquares" "cases" "[J") (List.mem_of_getElem? (i := 28) rfl)
  have hw29 := hts (.constant RX3 66 (-1000000)) (List.mem_of_getElem? (i := 29) rfl)
  have hw30 := hts (.instanceMethod yX2_init) (List.mem_of_getElem? (i := 30) rfl)
  have hw37 := hts (.instanceMethod yX1_init) (List.mem_of_getElem? (i := 37) rfl)
  have hw54 := hts (.methodLink RX3 47 yX0_init) (List.mem_of_getElem? (i := 54) rfl)
  have hw55 := hts (.instanceMethod yX0_init) (List.mem_of_getElem? (i := 55) rfl)
  subst hsz
  have hD := hD0.self (sz := s.heap.size)
  generalize hAe : va_A ([(h, .inr (3, [.null, .null, .null, .int 0, .null, .int 0, .null, .null, .null, .null, .null, .int 0, .null]))] : va_W) s.heap.size = A at hD ⊢
  have hA : ∀ q : Nat, s.heap.size ≤ q → A q := fun q h9 => by rw [← hAe]; exact Or.inr h9
  have hS : va_S A s.heap s.heap [] := va_S.rf
  have hP : va_P G.1 lzC ([(h, .inr (3, [.null, .null, .null, .int 0, .null, .int 0, .null, .null, .null, .null, .null, .int 0, .null]))] : va_W) s.heap := hP
  have hl := lv_entry ([.ref h]) (n := 1) (Nat.le_of_ble_eq_true rfl)
  rw [lg_entry_eq]
  generalize (lg_sl ([.ref h]) ++ List.replicate (1 - (lg_sl ([.ref h])).length) Slot.unset).toArray = ls at hl ⊢
  have hl : lv_has ls 1 [(0, .ref h)] := hl
  refine lv_aload_n hx hb dX3_init_0 rfl (lv_at hl 0 rfl) ?_
  refine W.objInit hx hb hown hw1 hw2 hw3 rfl (by rw [hml]; exact hl.1) rfl dX3_init_1 (Nat.le_of_ble_eq_true rfl) (Nat.le_of_ble_eq_true rfl) ?_
  refine W.eq (g2 := F0 m 4 ls []) rfl ?_
  refine lv_aload_n hx hb dX3_init_4 rfl (lv_at hl 0 rfl) ?_
  refine lv_bipush (v := 8) hx hb dX3_init_5 (by decide) ?_
  refine lv_bipush (v := 40) hx hb dX3_init_7 (by decide) ?_
  refine va_mna (X := ([(h, .inr (3, [.null, .null, .null, .int 0, .null, .int 0, .null, .null, .null, .null, .null, .int 0, .null]))] : va_W)) (L := []) (f := fun _ => .inl (0, (0, .inl (fun _ => 0)))) (ty := .int) (cy := G.2 0) (N' := 8) (K' := 40) (z := (40, .inl (fun _ => 0))) hx hb hown hw4 hAOA hw5 (hK.1.2 0 _ rfl).2 hK.1 hP hD hS hA (by decide) (by decide) rfl rfl (by decide) (by decide) (by decide) rfl rfl (Nat.le_of_ble_eq_true rfl) (Nat.le_of_ble_eq_true rfl) (fun c => by show ({ cls := c, slots := Array.replicate 40 (.int 0), vm := .none } : Cell) = _; rw [arrV_new]; rfl) dX3_init_9 (fun q0 r cA H hri hrn hK2 hP hD hS => ?_)
  have eA : cA = G.2 4 := ra_uniq (hK2.2 5 _ rfl).2 (hK.1.2 4 _ rfl).2
  subst eA
  clear hK2
  rw [rows_mk] at hP hD
  replace hP := P_refs (X := ([(h, .inr (3, [.null, .null, .null, .int 0, .null, .int 0, .null, .null, .null, .null, .null, .int 0, .null]))] : va_W)) (g := fun i => some (r i)) (a := q0) (n := 8) (cA := G.2 4) (f := fun i => if i < 8 then some (r i) else none) (Z := mapI (fun i => lzI G (r i) 40 (fun _ => 0)) 8) hP (fun j hj => if_pos hj)
  replace hD := D_refs (X := ([(h, .inr (3, [.null, .null, .null, .int 0, .null, .int 0, .null, .null, .null, .null, .null, .int 0, .null]))] : va_W)) (a := q0) (x := .inl (G.2 4, 8, .inr (.inr (.inr (.inr (fun i => if i < 8 then some (r i) else none)))))) (y := .inl (G.2 4, 8, .inr (.inr (.inr (.inr (fun i => some (r i))))))) (Z := mapI (fun i => lzI G (r i) 40 (fun _ => 0)) 8) hD
  obtain ⟨T1, hT1⟩ : ∃ T : va_W, T = lzQ G 4 q0 8 (fun i => some (r i)) ++ mapI (fun i => lzI G (r i) 40 (fun _ => 0)) 8 := ⟨_, rfl⟩
  replace hP : va_P G.1 lzC (([(h, .inr (3, [.null, .null, .null, .int 0, .null, .int 0, .null, .null, .null, .null, .null, .int 0, .null]))] : va_W) ++ T1) H := by rw [hT1]; exact hP
  replace hD : va_D A (([(h, .inr (3, [.null, .null, .null, .int 0, .null, .int 0, .null, .null, .null, .null, .null, .int 0, .null]))] : va_W) ++ T1) := by rw [hT1]; exact hD
  refine W.widen (k := 9) (n := 328) (Nat.le_of_ble_eq_true rfl) (Nat.le_of_ble_eq_true rfl) ?_
  refine lz_putR (G := G) (ci := 3) (C := RX3) (T := TX3) (N := 13) (ty := .array (.array .int)) (v := q0) hx hb hu (fun _ h9 => h9) tyX3 tyX3_ok nmX3 hown hK hP hD hS 0 rfl rfl 0 (by decide) hw6 rfl rfl hin rfl (by decide +kernel) rfl rfl (Nat.le_of_ble_eq_true rfl) dX3_init_13 (([(h, .inr (3, [.ref q0, .null, .null, .int 0, .null, .int 0, .null, .null, .null, .null, .null, .int 0, .null]))] : va_W) ++ T1) rfl (fun H locs hP hD hS => ?_)
  refine lv_aload_n hx hb dX3_init_16 rfl (lv_at hl 0 rfl) ?_
  refine lv_bipush (v := 8) hx hb dX3_init_17 (by decide) ?_
  refine lz_newi (n := 8) hx hb hw5 hK hP hD hS hA (by decide) (Nat.le_of_ble_eq_true rfl) (Nat.le_of_ble_eq_true rfl) dX3_init_19 (fun q1 H hP hD hS => ?_)
  obtain ⟨T2, hT2⟩ : ∃ T : va_W, T = T1 ++ (lzI G q1 8 (fun _ => 0)) := ⟨_, rfl⟩
  replace hP : va_P G.1 lzC (([(h, .inr (3, [.ref q0, .null, .null, .int 0, .null, .int 0, .null, .null, .null, .null, .null, .int 0, .null]))] : va_W) ++ T2) H := by rw [hT2]; exact P_as hP
  replace hD : va_D A (([(h, .inr (3, [.ref q0, .null, .null, .int 0, .null, .int 0, .null, .null, .null, .null, .null, .int 0, .null]))] : va_W) ++ T2) := by rw [hT2]; exact D_as hD
  refine W.widen (k := 10) (n := 336) (Nat.le_of_ble_eq_true rfl) (Nat.le_of_ble_eq_true rfl) ?_
  refine lz_putR (G := G) (ci := 3) (C := RX3) (T := TX3) (N := 13) (ty := .array .int) (v := q1) hx hb hu (fun _ h9 => h9) tyX3 tyX3_ok nmX3 hown hK hP hD hS 0 rfl rfl 1 (by decide) hw7 rfl rfl hin rfl (by decide +kernel) rfl rfl (Nat.le_of_ble_eq_true rfl) dX3_init_21 (([(h, .inr (3, [.ref q0, .ref q1, .null, .int 0, .null, .int 0, .null, .null, .null, .null, .null, .int 0, .null]))] : va_W) ++ T2) rfl (fun H locs hP hD hS => ?_)
  refine lv_aload_n hx hb dX3_init_24 rfl (lv_at hl 0 rfl) ?_
  refine lv_bipush (v := 8) hx hb dX3_init_25 (by decide) ?_
  refine lz_newi (n := 8) hx hb hw5 hK hP hD hS hA (by decide) (Nat.le_of_ble_eq_true rfl) (Nat.le_of_ble_eq_true rfl) dX3_init_27 (fun q2 H hP hD hS => ?_)
  obtain ⟨T3, hT3⟩ : ∃ T : va_W, T = T2 ++ (lzI G q2 8 (fun _ => 0)) := ⟨_, rfl⟩
  replace hP : va_P G.1 lzC (([(h, .inr (3, [.ref q0, .ref q1, .null, .int 0, .null, .int 0, .null, .null, .null, .null, .null, .int 0, .null]))] : va_W) ++ T3) H := by rw [hT3]; exact P_as hP
  replace hD : va_D A (([(h, .inr (3, [.ref q0, .ref q1, .null, .int 0, .null, .int 0, .null, .null, .null, .null, .null, .int 0, .null]))] : va_W) ++ T3) := by rw [hT3]; exact D_as hD
  refine W.widen (k := 11) (n := 344) (Nat.le_of_ble_eq_true rfl) (Nat.le_of_ble_eq_true rfl) ?_
  refine lz_putR (G := G) (ci := 3) (C := RX3) (T := TX3) (N := 13) (ty := .array .int) (v := q2) hx hb hu (fun _ h9 => h9) tyX3 tyX3_ok nmX3 hown hK hP hD hS 0 rfl rfl 2 (by decide) hw8 rfl rfl hin rfl (by decide +kernel) rfl rfl (Nat.le_of_ble_eq_true rfl) dX3_init_29 (([(h, .inr (3, [.ref q0, .ref q1, .ref q2, .int 0, .null, .int 0, .null, .null, .null, .null, .null, .int 0, .null]))] : va_W) ++ T3) rfl (fun H locs hP hD hS => ?_)
  refine lv_aload_n hx hb dX3_init_32 rfl (lv_at hl 0 rfl) ?_
  refine lv_iconst (v := 0) hx hb dX3_init_33 (by decide) ?_
  refine lz_put (G := G) (ci := 3) (C := RX3) (T := TX3) (N := 13) hx hb hu (fun _ h9 => h9) tyX3 tyX3_ok nmX3 hown hK hP hD hS 0 rfl rfl 3 (by decide) hw9 rfl rfl (by decide +kernel) (Nat.le_of_ble_eq_true rfl) dX3_init_34 (([(h, .inr (3, [.ref q0, .ref q1, .ref q2, .int 0, .null, .int 0, .null, .null, .null, .null, .null, .int 0, .null]))] : va_W) ++ T3) rfl (fun H locs hP hD hS => ?_)
  refine lv_aload_n hx hb dX3_init_37 rfl (lv_at hl 0 rfl) ?_
  refine va_new (ci := 2) (fs := [.null, .int 0, .int 0, .int 0]) (C := RX2) (T := TX2) (N := 4) hx hb hu2 (fun _ h9 => h9) tyX2 tyX2_ok hown hw10 hw11 hw12 hK.1 hP hD hS hA rfl (fun j hj => by rcases (show j = 0 ∨ j = 1 ∨ j = 2 ∨ j = 3 by omega) with rfl | rfl | rfl | rfl <;> rfl) (Nat.le_of_ble_eq_true rfl) (Nat.le_of_ble_eq_true rfl) dX3_init_38 (fun q4 H hP hD hS => ?_)
  refine W.widen (k := 12) (n := 348) (Nat.le_of_ble_eq_true rfl) (Nat.le_of_ble_eq_true rfl) ?_
  refine lv_dup hx hb dX3_init_41 rfl ?_
  have hFc := mk_free hD hS hA
  refine va_callv (va_runIN (As := []) (rest := [.ref q4, .ref h]) ⟨hx, hb, hml, hown, hts⟩ (c_X2_init l G q4 H.size) ⟨va_cnB (host := RX3) 0 hts gX3_init_X2_init_n27 rfl rfl rfl (hK.2 _ (List.mem_of_getElem? (i := 4) rfl)) hw12 (by decide +kernel) ⟨(Nat.le_of_ble_eq_true rfl), (Nat.le_of_ble_eq_true rfl)⟩, rfl, hw30⟩ (mk_pre hK (P_split hP).2 (D_split hD).2.1) rfl rfl hl.1 rfl (lv_room (Nat.le_of_ble_eq_true rfl)) dX3_init_42 ⟨(Nat.le_of_ble_eq_true rfl), (Nat.le_of_ble_eq_true rfl)⟩) hS (fun q _ h => hFc q h) hFc (fun u4 t9 H1 locs ht hvm hr_1 hB hz1 hk1 hS => ?_)
  obtain ⟨hP1, hD1⟩ := hB
  rw [ht] at hP1
  obtain ⟨hP, hD⟩ := mk_join hP hD hFc hk1 hP1 hD1
  clear ht hvm hz1 hk1 hP1 hD1 hFc
  generalize H1 = H at hP hS ⊢
  refine W.widen (k := 13) (n := 468) (Nat.le_of_ble_eq_true rfl) (Nat.le_of_ble_eq_true rfl) ?_
  obtain ⟨T4, hT4⟩ : ∃ T : va_W, T = T3 ++ (lzTp q4 u4 (fun _ => 0) ++ lzI G (u4 0) 120 (fun _ => 0)) := ⟨_, rfl⟩
  replace hP : va_P G.1 lzC (([(h, .inr (3, [.ref q0, .ref q1, .ref q2, .int 0, .null, .int 0, .null, .null, .null, .null, .null, .int 0, .null]))] : va_W) ++ T4) H := by rw [hT4]; exact P_as hP
  replace hD : va_D A (([(h, .inr (3, [.ref q0, .ref q1, .ref q2, .int 0, .null, .int 0, .null, .null, .null, .null, .null, .int 0, .null]))] : va_W) ++ T4) := by rw [hT4]; exact D_as hD
  refine lz_putR (G := G) (ci := 3) (C := RX3) (T := TX3) (N := 13) (ty := .object RX2) (v := q4) hx hb hu (fun _ h9 => h9) tyX3 tyX3_ok nmX3 hown hK hP hD hS 0 rfl rfl 4 (by decide) hw13 rfl rfl hin rfl (by decide +kernel) rfl rfl (Nat.le_of_ble_eq_true rfl) dX3_init_45 (([(h, .inr (3, [.ref q0, .ref q1, .ref q2, .int 0, .ref q4, .int 0, .null, .null, .null, .null, .null, .int 0, .null]))] : va_W) ++ T4) rfl (fun H locs hP hD hS => ?_)
  refine lv_aload_n hx hb dX3_init_48 rfl (lv_at hl 0 rfl) ?_
  refine lv_iconst (v := 0) hx hb dX3_init_49 (by decide) ?_
  refine lz_put (G := G) (ci := 3) (C := RX3) (T := TX3) (N := 13) hx hb hu (fun _ h9 => h9) tyX3 tyX3_ok nmX3 hown hK hP hD hS 0 rfl rfl 5 (by decide) hw14 rfl rfl (by decide +kernel) (Nat.le_of_ble_eq_true rfl) dX3_init_50 (([(h, .inr (3, [.ref q0, .ref q1, .ref q2, .int 0, .ref q4, .int 0, .null, .null, .null, .null, .null, .int 0, .null]))] : va_W) ++ T4) rfl (fun H locs hP hD hS => ?_)
  refine lv_aload_n hx hb dX3_init_53 rfl (lv_at hl 0 rfl) ?_
  refine va_new (ci := 1) (fs := [.int 0, .int 0, .int 0, .int 0, .null, .null, .null, .null, .null, .null, .null, .null, .null, .null]) (C := RX1) (T := TX1) (N := 14) hx hb hu1 (fun _ h9 => h9) tyX1 tyX1_ok hown hw15 hw16 hw17 hK.1 hP hD hS hA rfl (fun j hj => by rcases (show j = 0 ∨ j = 1 ∨ j = 2 ∨ j = 3 ∨ j = 4 ∨ j = 5 ∨ j = 6 ∨ j = 7 ∨ j = 8 ∨ j = 9 ∨ j = 10 ∨ j = 11 ∨ j = 12 ∨ j = 13 by omega) with rfl | rfl | rfl | rfl | rfl | rfl | rfl | rfl | rfl | rfl | rfl | rfl | rfl | rfl <;> rfl) (Nat.le_of_ble_eq_true rfl) (Nat.le_of_ble_eq_true rfl) dX3_init_54 (fun q6 H hP hD hS => ?_)
  refine W.widen (k := 14) (n := 482) (Nat.le_of_ble_eq_true rfl) (Nat.le_of_ble_eq_true rfl) ?_
  refine lv_dup hx hb dX3_init_57 rfl ?_
  have hFc := mk_free hD hS hA
  refine va_callv (va_runIN (As := []) (rest := [.ref q6, .ref h]) ⟨hx, hb, hml, hown, hts⟩ (c_X1_init l G q6 H.size) ⟨va_cnB (host := RX3) 0 hts gX3_init_X1_init_n37 rfl rfl rfl (hK.2 _ (List.mem_of_getElem? (i := 5) rfl)) hw17 (by decide +kernel) ⟨(Nat.le_of_ble_eq_true rfl), (Nat.le_of_ble_eq_true rfl)⟩, rfl, hw37⟩ (mk_pre hK (P_split hP).2 (D_split hD).2.1) rfl rfl hl.1 rfl (lv_room (Nat.le_of_ble_eq_true rfl)) dX3_init_58 ⟨(Nat.le_of_ble_eq_true rfl), (Nat.le_of_ble_eq_true rfl)⟩) hS (fun q _ h => hFc q h) hFc (fun u6 t9 H1 locs ht hvm hr_1 hB hz1 hk1 hS => ?_)
  obtain ⟨hP1, hD1⟩ := hB
  rw [ht] at hP1
  obtain ⟨hP, hD⟩ := mk_join hP hD hFc hk1 hP1 hD1
  clear ht hvm hz1 hk1 hP1 hD1 hFc
  generalize H1 = H at hP hS ⊢
  refine W.widen (k := 24) (n := 547) (Nat.le_of_ble_eq_true rfl) (Nat.le_of_ble_eq_true rfl) ?_
  obtain ⟨T5, hT5⟩ : ∃ T : va_W, T = T4 ++ (lzDoor G q6 u6 (fun _ => 0) (fun _ _ => 0)) := ⟨_, rfl⟩
  replace hP : va_P G.1 lzC (([(h, .inr (3, [.ref q0, .ref q1, .ref q2, .int 0, .ref q4, .int 0, .null, .null, .null, .null, .null, .int 0, .null]))] : va_W) ++ T5) H := by rw [hT5]; exact P_as hP
  replace hD : va_D A (([(h, .inr (3, [.ref q0, .ref q1, .ref q2, .int 0, .ref q4, .int 0, .null, .null, .null, .null, .null, .int 0, .null]))] : va_W) ++ T5) := by rw [hT5]; exact D_as hD
  refine lz_putR (G := G) (ci := 3) (C := RX3) (T := TX3) (N := 13) (ty := .object RX1) (v := q6) hx hb hu (fun _ h9 => h9) tyX3 tyX3_ok nmX3 hown hK hP hD hS 0 rfl rfl 6 (by decide) hw18 rfl rfl hin rfl (by decide +kernel) rfl rfl (Nat.le_of_ble_eq_true rfl) dX3_init_61 (([(h, .inr (3, [.ref q0, .ref q1, .ref q2, .int 0, .ref q4, .int 0, .ref q6, .null, .null, .null, .null, .int 0, .null]))] : va_W) ++ T5) rfl (fun H locs hP hD hS => ?_)
  refine lv_aload_n hx hb dX3_init_64 rfl (lv_at hl 0 rfl) ?_
  refine va_new (ci := 1) (fs := [.int 0, .int 0, .int 0, .int 0, .null, .null, .null, .null, .null, .null, .null, .null, .null, .null]) (C := RX1) (T := TX1) (N := 14) hx hb hu1 (fun _ h9 => h9) tyX1 tyX1_ok hown hw15 hw16 hw17 hK.1 hP hD hS hA rfl (fun j hj => by rcases (show j = 0 ∨ j = 1 ∨ j = 2 ∨ j = 3 ∨ j = 4 ∨ j = 5 ∨ j = 6 ∨ j = 7 ∨ j = 8 ∨ j = 9 ∨ j = 10 ∨ j = 11 ∨ j = 12 ∨ j = 13 by omega) with rfl | rfl | rfl | rfl | rfl | rfl | rfl | rfl | rfl | rfl | rfl | rfl | rfl | rfl <;> rfl) (Nat.le_of_ble_eq_true rfl) (Nat.le_of_ble_eq_true rfl) dX3_init_65 (fun q7 H hP hD hS => ?_)
  refine W.widen (k := 25) (n := 561) (Nat.le_of_ble_eq_true rfl) (Nat.le_of_ble_eq_true rfl) ?_
  refine lv_dup hx hb dX3_init_68 rfl ?_
  have hFc := mk_free hD hS hA
  refine va_callv (va_runIN (As := []) (rest := [.ref q7, .ref h]) ⟨hx, hb, hml, hown, hts⟩ (c_X1_init l G q7 H.size) ⟨va_cnB (host := RX3) 0 hts gX3_init_X1_init_n37 rfl rfl rfl (hK.2 _ (List.mem_of_getElem? (i := 5) rfl)) hw17 (by decide +kernel) ⟨(Nat.le_of_ble_eq_true rfl), (Nat.le_of_ble_eq_true rfl)⟩, rfl, hw37⟩ (mk_pre hK (P_split hP).2 (D_split hD).2.1) rfl rfl hl.1 rfl (lv_room (Nat.le_of_ble_eq_true rfl)) dX3_init_69 ⟨(Nat.le_of_ble_eq_true rfl), (Nat.le_of_ble_eq_true rfl)⟩) hS (fun q _ h => hFc q h) hFc (fun u7 t9 H1 locs ht hvm hr_1 hB hz1 hk1 hS => ?_)
  obtain ⟨hP1, hD1⟩ := hB
  rw [ht] at hP1
  obtain ⟨hP, hD⟩ := mk_join hP hD hFc hk1 hP1 hD1
  clear ht hvm hz1 hk1 hP1 hD1 hFc
  generalize H1 = H at hP hS ⊢
  refine W.widen (k := 35) (n := 626) (Nat.le_of_ble_eq_true rfl) (Nat.le_of_ble_eq_true rfl) ?_
  obtain ⟨T6, hT6⟩ : ∃ T : va_W, T = T5 ++ (lzDoor G q7 u7 (fun _ => 0) (fun _ _ => 0)) := ⟨_, rfl⟩
  replace hP : va_P G.1 lzC (([(h, .inr (3, [.ref q0, .ref q1, .ref q2, .int 0, .ref q4, .int 0, .ref q6, .null, .null, .null, .null, .int 0, .null]))] : va_W) ++ T6) H := by rw [hT6]; exact P_as hP
  replace hD : va_D A (([(h, .inr (3, [.ref q0, .ref q1, .ref q2, .int 0, .ref q4, .int 0, .ref q6, .null, .null, .null, .null, .int 0, .null]))] : va_W) ++ T6) := by rw [hT6]; exact D_as hD
  refine lz_putR (G := G) (ci := 3) (C := RX3) (T := TX3) (N := 13) (ty := .object RX1) (v := q7) hx hb hu (fun _ h9 => h9) tyX3 tyX3_ok nmX3 hown hK hP hD hS 0 rfl rfl 7 (by decide) hw19 rfl rfl hin rfl (by decide +kernel) rfl rfl (Nat.le_of_ble_eq_true rfl) dX3_init_72 (([(h, .inr (3, [.ref q0, .ref q1, .ref q2, .int 0, .ref q4, .int 0, .ref q6, .ref q7, .null, .null, .null, .int 0, .null]))] : va_W) ++ T6) rfl (fun H locs hP hD hS => ?_)
  refine lv_aload_n hx hb dX3_init_75 rfl (lv_at hl 0 rfl) ?_
  refine va_new (ci := 0) (fs := [.null, .int 0, .int 0]) (C := RX0) (T := TX0) (N := 3) hx hb hu0 (fun _ h9 => h9) tyX0 tyX0_ok hown hw20 hw21 hw22 hK.1 hP hD hS hA rfl (fun j hj => by rcases (show j = 0 ∨ j = 1 ∨ j = 2 by omega) with rfl | rfl | rfl <;> rfl) (Nat.le_of_ble_eq_true rfl) (Nat.le_of_ble_eq_true rfl) dX3_init_76 (fun q8 H hP hD hS => ?_)
  refine W.widen (k := 36) (n := 629) (Nat.le_of_ble_eq_true rfl) (Nat.le_of_ble_eq_true rfl) ?_
  refine lv_dup hx hb dX3_init_79 rfl ?_
  have hFc := mk_free hD hS hA
  refine va_callv (va_runI (As := []) (rest := [.ref q8, .ref h]) ⟨hx, hb, hml, hown, hts⟩ (c_X0_init l G q8 H.size) (cwI 0 hts gX3_init_X0_init rfl rfl rfl hw22 hw54 hw55 rfl (by decide +kernel) ⟨(Nat.le_of_ble_eq_true rfl), (Nat.le_of_ble_eq_true rfl)⟩) (mk_preO hK hAO (P_split hP).2 (D_split hD).2.1) rfl rfl hl.1 rfl (lv_room (Nat.le_of_ble_eq_true rfl)) dX3_init_80 ⟨(Nat.le_of_ble_eq_true rfl), (Nat.le_of_ble_eq_true rfl)⟩) hS (fun q _ h => hFc q h) hFc (fun u8 t9 H1 locs ht hvm hr_1 hB hz1 hk1 hS => ?_)
  obtain ⟨hP1, hD1⟩ := hB
  rw [ht] at hP1
  obtain ⟨hP, hD⟩ := mk_join hP hD hFc hk1 hP1 hD1
  clear ht hvm hz1 hk1 hP1 hD1 hFc
  generalize H1 = H at hP hS ⊢
  refine W.widen (k := 301) (n := 2549) (Nat.le_of_ble_eq_true rfl) (Nat.le_of_ble_eq_true rfl) ?_
  obtain ⟨T7, hT7⟩ : ∃ T : va_W, T = T6 ++ (lzAc q8 (fun _ => u8.1) (fun _ => 0) ++ (lzQ G 3 u8.1 24 (fun i => some (u8.2.1 i)) ++ ringW G u8.2.1 u8.2.2 (fun _ _ => 0) (fun _ _ _ => 0))) := ⟨_, rfl⟩
  replace hP : va_P G.1 lzC (([(h, .inr (3, [.ref q0, .ref q1, .ref q2, .int 0, .ref q4, .int 0, .ref q6, .ref q7, .null, .null, .null, .int 0, .null]))] : va_W) ++ T7) H := by rw [hT7]; exact P_as hP
  replace hD : va_D A (([(h, .inr (3, [.ref q0, .ref q1, .ref q2, .int 0, .ref q4, .int 0, .ref q6, .ref q7, .null, .null, .null, .int 0, .null]))] : va_W) ++ T7) := by rw [hT7]; exact D_as hD
  refine lz_putR (G := G) (ci := 3) (C := RX3) (T := TX3) (N := 13) (ty := .object RX0) (v := q8) hx hb hu (fun _ h9 => h9) tyX3 tyX3_ok nmX3 hown hK hP hD hS 0 rfl rfl 8 (by decide) hw23 rfl rfl hin rfl (by decide +kernel) rfl rfl (Nat.le_of_ble_eq_true rfl) dX3_init_83 (([(h, .inr (3, [.ref q0, .ref q1, .ref q2, .int 0, .ref q4, .int 0, .ref q6, .ref q7, .ref q8, .null, .null, .int 0, .null]))] : va_W) ++ T7) rfl (fun H locs hP hD hS => ?_)
  refine lv_aload_n hx hb dX3_init_86 rfl (lv_at hl 0 rfl) ?_
  refine lv_iconst (v := 2) hx hb dX3_init_87 (by decide) ?_
  refine lz_newd (n := 2) hx hb hown hw15 hAO hK hP hD hS hA (by decide) (Nat.le_of_ble_eq_true rfl) (Nat.le_of_ble_eq_true rfl) dX3_init_88 (fun q9 H hP hD hS => ?_)
  refine W.widen (k := 302) (n := 2551) (Nat.le_of_ble_eq_true rfl) (Nat.le_of_ble_eq_true rfl) ?_
  refine lv_dup hx hb dX3_init_91 rfl ?_
  refine lv_iconst (v := 0) hx hb dX3_init_92 (by decide) ?_
  refine va_new (ci := 1) (fs := [.int 0, .int 0, .int 0, .int 0, .null, .null, .null, .null, .null, .null, .null, .null, .null, .null]) (C := RX1) (T := TX1) (N := 14) hx hb hu1 (fun _ h9 => h9) tyX1 tyX1_ok hown hw15 hw16 hw17 hK.1 hP hD hS hA rfl (fun j hj => by rcases (show j = 0 ∨ j = 1 ∨ j = 2 ∨ j = 3 ∨ j = 4 ∨ j = 5 ∨ j = 6 ∨ j = 7 ∨ j = 8 ∨ j = 9 ∨ j = 10 ∨ j = 11 ∨ j = 12 ∨ j = 13 by omega) with rfl | rfl | rfl | rfl | rfl | rfl | rfl | rfl | rfl | rfl | rfl | rfl | rfl | rfl <;> rfl) (Nat.le_of_ble_eq_true rfl) (Nat.le_of_ble_eq_true rfl) dX3_init_93 (fun qa H hP hD hS => ?_)
  refine W.widen (k := 303) (n := 2565) (Nat.le_of_ble_eq_true rfl) (Nat.le_of_ble_eq_true rfl) ?_
  refine lv_dup hx hb dX3_init_96 rfl ?_
  have hFc := mk_free hD hS hA
  refine va_callv (va_runIN (As := []) (rest := [.ref qa, .int 0, .ref q9, .ref q9, .ref h]) ⟨hx, hb, hml, hown, hts⟩ (c_X1_init l G qa H.size) ⟨va_cnB (host := RX3) 0 hts gX3_init_X1_init_n37 rfl rfl rfl (hK.2 _ (List.mem_of_getElem? (i := 5) rfl)) hw17 (by decide +kernel) ⟨(Nat.le_of_ble_eq_true rfl), (Nat.le_of_ble_eq_true rfl)⟩, rfl, hw37⟩ (mk_pre hK (P_split hP).2 (D_split hD).2.1) rfl rfl hl.1 rfl (lv_room (Nat.le_of_ble_eq_true rfl)) dX3_init_97 ⟨(Nat.le_of_ble_eq_true rfl), (Nat.le_of_ble_eq_true rfl)⟩) hS (fun q _ h => hFc q h) hFc (fun ua t9 H1 locs ht hvm hr_1 hB hz1 hk1 hS => ?_)
  obtain ⟨hP1, hD1⟩ := hB
  rw [ht] at hP1
  obtain ⟨hP, hD⟩ := mk_join hP hD hFc hk1 hP1 hD1
  clear ht hvm hz1 hk1 hP1 hD1 hFc
  generalize H1 = H at hP hS ⊢
  refine W.widen (k := 313) (n := 2630) (Nat.le_of_ble_eq_true rfl) (Nat.le_of_ble_eq_true rfl) ?_
  refine va_astq (r := (RX1, TX1, 14)) (ci := 1) (i := 0) hx hb hK.1 (P_perm im_fwd hP) (D_perm im_fwd hD) hS 0 3 1 rfl rfl rfl rfl (show vp_in (nI 0) 2 from vp_in_nI (by decide) (by decide)) dX3_init_100 (fun H locs hP hD hS => ?_)
  replace hP : va_P G.1 lzC ((([(h, .inr (3, [.ref q0, .ref q1, .ref q2, .int 0, .ref q4, .int 0, .ref q6, .ref q7, .ref q8, .null, .null, .int 0, .null]))] : va_W) ++ (T7 ++ lzDoor G qa ua (fun _ => 0) (fun _ _ => 0))) ++ ([(q9, .inl (G.2 3, 2, .inr (.inr (.inr (.inr (va_up (fun _ => none) 0 (some qa)))))))] : va_W)) H := P_perm (im_bwd (N := lzDoor G qa ua (fun _ => 0) (fun _ _ => 0))) hP
  replace hD : va_D A ((([(h, .inr (3, [.ref q0, .ref q1, .ref q2, .int 0, .ref q4, .int 0, .ref q6, .ref q7, .ref q8, .null, .null, .int 0, .null]))] : va_W) ++ (T7 ++ lzDoor G qa ua (fun _ => 0) (fun _ _ => 0))) ++ ([(q9, .inl (G.2 3, 2, .inr (.inr (.inr (.inr (va_up (fun _ => none) 0 (some qa)))))))] : va_W)) := D_perm (im_bwd (N := lzDoor G qa ua (fun _ => 0) (fun _ _ => 0))) hD
  obtain ⟨T8, hT8⟩ : ∃ T : va_W, T = T7 ++ lzDoor G qa ua (fun _ => 0) (fun _ _ => 0) := ⟨_, rfl⟩
  rw [← hT8] at hP hD
  refine lv_dup hx hb dX3_init_101 rfl ?_
  refine lv_iconst (v := 1) hx hb dX3_init_102 (by decide) ?_
  refine va_new (ci := 1) (fs := [.int 0, .int 0, .int 0, .int 0, .null, .null, .null, .null, .null, .null, .null, .null, .null, .null]) (C := RX1) (T := TX1) (N := 14) hx hb hu1 (fun _ h9 => h9) tyX1 tyX1_ok hown hw15 hw16 hw17 hK.1 hP hD hS hA rfl (fun j hj => by rcases (show j = 0 ∨ j = 1 ∨ j = 2 ∨ j = 3 ∨ j = 4 ∨ j = 5 ∨ j = 6 ∨ j = 7 ∨ j = 8 ∨ j = 9 ∨ j = 10 ∨ j = 11 ∨ j = 12 ∨ j = 13 by omega) with rfl | rfl | rfl | rfl | rfl | rfl | rfl | rfl | rfl | rfl | rfl | rfl | rfl | rfl <;> rfl) (Nat.le_of_ble_eq_true rfl) (Nat.le_of_ble_eq_true rfl) dX3_init_103 (fun qb H hP hD hS => ?_)
  refine W.widen (k := 314) (n := 2644) (Nat.le_of_ble_eq_true rfl) (Nat.le_of_ble_eq_true rfl) ?_
  refine lv_dup hx hb dX3_init_106 rfl ?_
  have hFc := mk_free hD hS hA
  refine va_callv (va_runIN (As := []) (rest := [.ref qb, .int 1, .ref q9, .ref q9, .ref h]) ⟨hx, hb, hml, hown, hts⟩ (c_X1_init l G qb H.size) ⟨va_cnB (host := RX3) 0 hts gX3_init_X1_init_n37 rfl rfl rfl (hK.2 _ (List.mem_of_getElem? (i := 5) rfl)) hw17 (by decide +kernel) ⟨(Nat.le_of_ble_eq_true rfl), (Nat.le_of_ble_eq_true rfl)⟩, rfl, hw37⟩ (mk_pre hK (P_split hP).2 (D_split hD).2.1) rfl rfl hl.1 rfl (lv_room (Nat.le_of_ble_eq_true rfl)) dX3_init_107 ⟨(Nat.le_of_ble_eq_true rfl), (Nat.le_of_ble_eq_true rfl)⟩) hS (fun q _ h => hFc q h) hFc (fun ub t9 H1 locs ht hvm hr_1 hB hz1 hk1 hS => ?_)
  obtain ⟨hP1, hD1⟩ := hB
  rw [ht] at hP1
  obtain ⟨hP, hD⟩ := mk_join hP hD hFc hk1 hP1 hD1
  clear ht hvm hz1 hk1 hP1 hD1 hFc
  generalize H1 = H at hP hS ⊢
  refine W.widen (k := 324) (n := 2709) (Nat.le_of_ble_eq_true rfl) (Nat.le_of_ble_eq_true rfl) ?_
  refine va_astq (r := (RX1, TX1, 14)) (ci := 1) (i := 1) hx hb hK.1 (P_perm im_fwd hP) (D_perm im_fwd hD) hS 0 3 1 rfl rfl rfl rfl (show vp_in (nI 1) 2 from vp_in_nI (by decide) (by decide)) dX3_init_110 (fun H locs hP hD hS => ?_)
  replace hP : va_P G.1 lzC ((([(h, .inr (3, [.ref q0, .ref q1, .ref q2, .int 0, .ref q4, .int 0, .ref q6, .ref q7, .ref q8, .null, .null, .int 0, .null]))] : va_W) ++ (T8 ++ lzDoor G qb ub (fun _ => 0) (fun _ _ => 0))) ++ ([(q9, .inl (G.2 3, 2, .inr (.inr (.inr (.inr (va_up (va_up (fun _ => none) 0 (some qa)) 1 (some qb)))))))] : va_W)) H := P_perm (im_bwd (N := lzDoor G qb ub (fun _ => 0) (fun _ _ => 0))) hP
  replace hD : va_D A ((([(h, .inr (3, [.ref q0, .ref q1, .ref q2, .int 0, .ref q4, .int 0, .ref q6, .ref q7, .ref q8, .null, .null, .int 0, .null]))] : va_W) ++ (T8 ++ lzDoor G qb ub (fun _ => 0) (fun _ _ => 0))) ++ ([(q9, .inl (G.2 3, 2, .inr (.inr (.inr (.inr (va_up (va_up (fun _ => none) 0 (some qa)) 1 (some qb)))))))] : va_W)) := D_perm (im_bwd (N := lzDoor G qb ub (fun _ => 0) (fun _ _ => 0))) hD
  obtain ⟨T9, hT9⟩ : ∃ T : va_W, T = T8 ++ lzDoor G qb ub (fun _ => 0) (fun _ _ => 0) := ⟨_, rfl⟩
  rw [← hT9] at hP hD
  have hv9 : ∀ j, j < 2 → (va_up (va_up (fun _ => none) 0 (some qa)) 1 (some qb)) j = some (adL [qa, qb] j) := fun j hj => by rcases (show j = 0 ∨ j = 1 by omega) with rfl | rfl <;> rfl
  replace hP := P_refs (X := (([(h, .inr (3, [.ref q0, .ref q1, .ref q2, .int 0, .ref q4, .int 0, .ref q6, .ref q7, .ref q8, .null, .null, .int 0, .null]))] : va_W) ++ T9)) (Z := []) (g := fun j => some (adL [qa, qb] j)) hP hv9
  replace hD := D_refs (X := (([(h, .inr (3, [.ref q0, .ref q1, .ref q2, .int 0, .ref q4, .int 0, .ref q6, .ref q7, .ref q8, .null, .null, .int 0, .null]))] : va_W) ++ T9)) (Z := []) (a := q9) (y := .inl (G.2 3, 2, .inr (.inr (.inr (.inr (fun j => some (adL [qa, qb] j))))))) hD
  obtain ⟨T10, hT10⟩ : ∃ T : va_W, T = T9 ++ (lzQ G 3 q9 2 (fun j => some (adL [qa, qb] j))) := ⟨_, rfl⟩
  replace hP : va_P G.1 lzC (([(h, .inr (3, [.ref q0, .ref q1, .ref q2, .int 0, .ref q4, .int 0, .ref q6, .ref q7, .ref q8, .null, .null, .int 0, .null]))] : va_W) ++ T10) H := by rw [hT10]; exact P_as hP
  replace hD : va_D A (([(h, .inr (3, [.ref q0, .ref q1, .ref q2, .int 0, .ref q4, .int 0, .ref q6, .ref q7, .ref q8, .null, .null, .int 0, .null]))] : va_W) ++ T10) := by rw [hT10]; exact D_as hD
  refine lz_putR (G := G) (ci := 3) (C := RX3) (T := TX3) (N := 13) (ty := .array (.object RX1)) (v := q9) hx hb hu (fun _ h9 => h9) tyX3 tyX3_ok nmX3 hown hK hP hD hS 0 rfl rfl 9 (by decide) hw24 rfl rfl hin rfl (by decide +kernel) rfl rfl (Nat.le_of_ble_eq_true rfl) dX3_init_111 (([(h, .inr (3, [.ref q0, .ref q1, .ref q2, .int 0, .ref q4, .int 0, .ref q6, .ref q7, .ref q8, .ref q9, .null, .int 0, .null]))] : va_W) ++ T10) rfl (fun H locs hP hD hS => ?_)
  refine lv_aload_n hx hb dX3_init_114 rfl (lv_at hl 0 rfl) ?_
  refine lv_bipush (v := 16) hx hb dX3_init_115 (by decide) ?_
  refine lz_newi (n := 16) hx hb hw5 hK hP hD hS hA (by decide) (Nat.le_of_ble_eq_true rfl) (Nat.le_of_ble_eq_true rfl) dX3_init_117 (fun qt H hP hD hS => ?_)
  obtain ⟨T11, hT11⟩ : ∃ T : va_W, T = T10 ++ (lzI G qt 16 (fun _ => 0)) := ⟨_, rfl⟩
  replace hP : va_P G.1 lzC (([(h, .inr (3, [.ref q0, .ref q1, .ref q2, .int 0, .ref q4, .int 0, .ref q6, .ref q7, .ref q8, .ref q9, .null, .int 0, .null]))] : va_W) ++ T11) H := by rw [hT11]; exact P_as hP
  replace hD : va_D A (([(h, .inr (3, [.ref q0, .ref q1, .ref q2, .int 0, .ref q4, .int 0, .ref q6, .ref q7, .ref q8, .ref q9, .null, .int 0, .null]))] : va_W) ++ T11) := by rw [hT11]; exact D_as hD
  refine W.widen (k := 325) (n := 2725) (Nat.le_of_ble_eq_true rfl) (Nat.le_of_ble_eq_true rfl) ?_
  refine lz_putR (G := G) (ci := 3) (C := RX3) (T := TX3) (N := 13) (ty := .array .int) (v := qt) hx hb hu (fun _ h9 => h9) tyX3 tyX3_ok nmX3 hown hK hP hD hS 0 rfl rfl 10 (by decide) hw25 rfl rfl hin rfl (by decide +kernel) rfl rfl (Nat.le_of_ble_eq_true rfl) dX3_init_119 (([(h, .inr (3, [.ref q0, .ref q1, .ref q2, .int 0, .ref q4, .int 0, .ref q6, .ref q7, .ref q8, .ref q9, .ref qt, .int 0, .null]))] : va_W) ++ T11) rfl (fun H locs hP hD hS => ?_)
  refine lv_aload_n hx hb dX3_init_122 rfl (lv_at hl 0 rfl) ?_
  refine lv_iconst (v := 0) hx hb dX3_init_123 (by decide) ?_
  refine lz_put (G := G) (ci := 3) (C := RX3) (T := TX3) (N := 13) hx hb hu (fun _ h9 => h9) tyX3 tyX3_ok nmX3 hown hK hP hD hS 0 rfl rfl 11 (by decide) hw26 rfl rfl (by decide +kernel) (Nat.le_of_ble_eq_true rfl) dX3_init_124 (([(h, .inr (3, [.ref q0, .ref q1, .ref q2, .int 0, .ref q4, .int 0, .ref q6, .ref q7, .ref q8, .ref q9, .ref qt, .int 0, .null]))] : va_W) ++ T11) rfl (fun H locs hP hD hS => ?_)
  refine lv_aload_n hx hb dX3_init_127 rfl (lv_at hl 0 rfl) ?_
  refine lv_bipush (v := 9) hx hb dX3_init_128 (by decide) ?_
  refine lz_newl (n := 9) hx hb hw27 hK hP hD hS hA (by decide) (Nat.le_of_ble_eq_true rfl) (Nat.le_of_ble_eq_true rfl) dX3_init_130 (fun qc H hP hD hS => ?_)
  obtain ⟨T12, hT12⟩ : ∃ T : va_W, T = T11 ++ (lzL G qc 9 (fun _ => 0)) := ⟨_, rfl⟩
  replace hP : va_P G.1 lzC (([(h, .inr (3, [.ref q0, .ref q1, .ref q2, .int 0, .ref q4, .int 0, .ref q6, .ref q7, .ref q8, .ref q9, .ref qt, .int 0, .null]))] : va_W) ++ T12) H := by rw [hT12]; exact P_as hP
  replace hD : va_D A (([(h, .inr (3, [.ref q0, .ref q1, .ref q2, .int 0, .ref q4, .int 0, .ref q6, .ref q7, .ref q8, .ref q9, .ref qt, .int 0, .null]))] : va_W) ++ T12) := by rw [hT12]; exact D_as hD
  refine W.widen (k := 326) (n := 2734) (Nat.le_of_ble_eq_true rfl) (Nat.le_of_ble_eq_true rfl) ?_
  refine lz_putR (G := G) (ci := 3) (C := RX3) (T := TX3) (N := 13) (ty := .array .long) (v := qc) hx hb hu (fun _ h9 => h9) tyX3 tyX3_ok nmX3 hown hK hP hD hS 0 rfl rfl 12 (by decide) hw28 rfl rfl hin rfl (by decide +kernel) rfl rfl (Nat.le_of_ble_eq_true rfl) dX3_init_132 (([(h, .inr (3, [.ref q0, .ref q1, .ref q2, .int 0, .ref q4, .int 0, .ref q6, .ref q7, .ref q8, .ref q9, .ref qt, .int 0, .ref qc]))] : va_W) ++ T12) rfl (fun H locs hP hD hS => ?_)
  refine lv_aload_n hx hb dX3_init_135 rfl (lv_at hl 0 rfl) ?_
  refine lz_get (G := G) (ci := 3) (v := .ref q2) (C := RX3) (T := TX3) (N := 13) hx hb hu (fun _ h9 => h9) hown hK hP 0 rfl rfl 2 (by decide) hw8 rfl rfl dX3_init_136 ?_
  refine lv_ldc hx hb hown hw29 dX3_init_139 ?_
  have eW : (([(h, .inr (3, [.ref q0, .ref q1, .ref q2, .int 0, .ref q4, .int 0, .ref q6, .ref q7, .ref q8, .ref q9, .ref qt, .int 0, .ref qc]))] : va_W) ++ T12) = (([[(h, .inr (3, [.ref q0, .ref q1, .ref q2, .int 0, .ref q4, .int 0, .ref q6, .ref q7, .ref q8, .ref q9, .ref qt, .int 0, .ref qc]))], lzQ G 4 q0 8 (fun i => some (r i)), mapI (fun i => lzI G (r i) 40 (fun _ => 0)) 8, lzI G q1 8 (fun _ => 0), lzI G q2 8 (fun _ => 0), lzTp q4 u4 (fun _ => 0), lzI G (u4 0) 120 (fun _ => 0), lzDoor G q6 u6 (fun _ => 0) (fun _ _ => 0), lzDoor G q7 u7 (fun _ => 0) (fun _ _ => 0), lzAc q8 (fun _ => u8.1) (fun _ => 0), lzQ G 3 u8.1 24 (fun i => some (u8.2.1 i)), ringW G u8.2.1 u8.2.2 (fun _ _ => 0) (fun _ _ _ => 0), lzDoor G qa ua (fun _ => 0) (fun _ _ => 0), lzDoor G qb ub (fun _ => 0) (fun _ _ => 0), lzQ G 3 q9 2 (fun j => some (adL [qa, qb] j)), lzI G qt 16 (fun _ => 0), lzL G qc 9 (fun _ => 0)] : List va_W)).flatten := by
    rw [hT12, hT11, hT10, hT9, hT8, hT7, hT6, hT5, hT4, hT3, hT2, hT1]
    simp only [List.flatten_cons, List.flatten_nil, List.append_nil, List.append_assoc]
  rw [eW] at hP hD
  clear eW
  have hp1 : (([[(h, .inr (3, [.ref q0, .ref q1, .ref q2, .int 0, .ref q4, .int 0, .ref q6, .ref q7, .ref q8, .ref q9, .ref qt, .int 0, .ref qc]))], lzQ G 4 q0 8 (fun i => some (r i)), mapI (fun i => lzI G (r i) 40 (fun _ => 0)) 8, lzI G q1 8 (fun _ => 0), lzI G q2 8 (fun _ => 0), lzTp q4 u4 (fun _ => 0), lzI G (u4 0) 120 (fun _ => 0), lzDoor G q6 u6 (fun _ => 0) (fun _ _ => 0), lzDoor G q7 u7 (fun _ => 0) (fun _ _ => 0), lzAc q8 (fun _ => u8.1) (fun _ => 0), lzQ G 3 u8.1 24 (fun i => some (u8.2.1 i)), ringW G u8.2.1 u8.2.2 (fun _ _ => 0) (fun _ _ _ => 0), lzDoor G qa ua (fun _ => 0) (fun _ _ => 0), lzDoor G qb ub (fun _ => 0) (fun _ _ => 0), lzQ G 3 q9 2 (fun j => some (adL [qa, qb] j)), lzI G qt 16 (fun _ => 0), lzL G qc 9 (fun _ => 0)] : List va_W)).flatten.Perm (lzI G q2 8 (fun _ => 0) ++ (([[(h, .inr (3, [.ref q0, .ref q1, .ref q2, .int 0, .ref q4, .int 0, .ref q6, .ref q7, .ref q8, .ref q9, .ref qt, .int 0, .ref qc]))], lzI G q1 8 (fun _ => 0), lzTp q4 u4 (fun _ => 0), lzI G (u4 0) 120 (fun _ => 0), lzDoor G q6 u6 (fun _ => 0) (fun _ _ => 0), lzDoor G q7 u7 (fun _ => 0) (fun _ _ => 0), lzAc q8 (fun _ => u8.1) (fun _ => 0), lzQ G 3 u8.1 24 (fun i => some (u8.2.1 i)), ringW G u8.2.1 u8.2.2 (fun _ _ => 0) (fun _ _ _ => 0), lzQ G 3 q9 2 (fun j => some (adL [qa, qb] j)), lzDoor G qa ua (fun _ => 0) (fun _ _ => 0), lzDoor G qb ub (fun _ => 0) (fun _ _ => 0), lzI G qt 16 (fun _ => 0), lzL G qc 9 (fun _ => 0), lzQ G 4 q0 8 (fun i => some (r i)), mapI (fun i => lzI G (r i) 40 (fun _ => 0)) 8] : List va_W)).flatten) := perm_flat (L' := lzI G q2 8 (fun _ => 0) :: ([[(h, .inr (3, [.ref q0, .ref q1, .ref q2, .int 0, .ref q4, .int 0, .ref q6, .ref q7, .ref q8, .ref q9, .ref qt, .int 0, .ref qc]))], lzI G q1 8 (fun _ => 0), lzTp q4 u4 (fun _ => 0), lzI G (u4 0) 120 (fun _ => 0), lzDoor G q6 u6 (fun _ => 0) (fun _ _ => 0), lzDoor G q7 u7 (fun _ => 0) (fun _ _ => 0), lzAc q8 (fun _ => u8.1) (fun _ => 0), lzQ G 3 u8.1 24 (fun i => some (u8.2.1 i)), ringW G u8.2.1 u8.2.2 (fun _ _ => 0) (fun _ _ _ => 0), lzQ G 3 q9 2 (fun j => some (adL [qa, qb] j)), lzDoor G qa ua (fun _ => 0) (fun _ _ => 0), lzDoor G qb ub (fun _ => 0) (fun _ _ => 0), lzI G qt 16 (fun _ => 0), lzL G qc 9 (fun _ => 0), lzQ G 4 q0 8 (fun i => some (r i)), mapI (fun i => lzI G (r i) 40 (fun _ => 0)) 8] : List va_W)) (perm_parts [4, 0, 3, 5, 6, 7, 8, 9, 10, 11, 14, 12, 13, 15, 16, 1, 2] rfl (show List.Perm _ (List.range 17) by decide))
  replace hP := P_perm hp1 hP
  replace hD := D_perm hp1 hD
  clear hp1
  have hF9 : ∀ q, lzA (lzI G q2 8 (fun _ => 0)) q → A q := fun q ⟨k, x, h9⟩ => (D_split hD).1.2 k (q, x) h9
  refine va_callv (va_runS (As := [.ref q2, .int (-1000000)]) (rest := []) ⟨hx, hb, hml, hown, hts⟩ (c_J7_fill_53178 l G q2 8 (fun _ => 0) (-1000000) (by decide)) (va_cwS 2 hts gX3_init_J7_fill_53178 rfl rfl rfl (by decide +kernel) ⟨(Nat.le_of_ble_eq_true rfl), (Nat.le_of_ble_eq_true rfl)⟩) (rw_pre hK (P_split hP).1 (D_split hD).1) rfl rfl hl.1 rfl (lv_room (Nat.le_of_ble_eq_true rfl)) dX3_init_141 ⟨(Nat.le_of_ble_eq_true rfl), (Nat.le_of_ble_eq_true rfl)⟩) hS (fun q _ h => hF9 q h) hF9 (fun u_2 t9 H1 locs ht hvm hr_1 hB hz1 hk1 hS => ?_)
  replace hB : va_P G.1 lzC (lzI G q2 8 (fa_fill (fun _ => -1000000) (fun _ => 0) 8)) t9.heap := hB
  rw [ht] at hB
  replace hP := P_app hB (fr_rest hP (hD.weaken (fun _ _ _ _ => trivial)) hk1)
  replace hD : va_D A (lzI G q2 8 (fa_fill (fun _ => -1000000) (fun _ => 0) 8) ++ (([[(h, .inr (3, [.ref q0, .ref q1, .ref q2, .int 0, .ref q4, .int 0, .ref q6, .ref q7, .ref q8, .ref q9, .ref qt, .int 0, .ref qc]))], lzI G q1 8 (fun _ => 0), lzTp q4 u4 (fun _ => 0), lzI G (u4 0) 120 (fun _ => 0), lzDoor G q6 u6 (fun _ => 0) (fun _ _ => 0), lzDoor G q7 u7 (fun _ => 0) (fun _ _ => 0), lzAc q8 (fun _ => u8.1) (fun _ => 0), lzQ G 3 u8.1 24 (fun i => some (u8.2.1 i)), ringW G u8.2.1 u8.2.2 (fun _ _ => 0) (fun _ _ _ => 0), lzQ G 3 q9 2 (fun j => some (adL [qa, qb] j)), lzDoor G qa ua (fun _ => 0) (fun _ _ => 0), lzDoor G qb ub (fun _ => 0) (fun _ _ => 0), lzI G qt 16 (fun _ => 0), lzL G qc 9 (fun _ => 0), lzQ G 4 q0 8 (fun i => some (r i)), mapI (fun i => lzI G (r i) 40 (fun _ => 0)) 8] : List va_W)).flatten) := va_D_fst (by rw [List.map_append, List.map_append]; rfl) hD
  have hp2 : (lzI G q2 8 (fa_fill (fun _ => -1000000) (fun _ => 0) 8) ++ (([[(h, .inr (3, [.ref q0, .ref q1, .ref q2, .int 0, .ref q4, .int 0, .ref q6, .ref q7, .ref q8, .ref q9, .ref qt, .int 0, .ref qc]))], lzI G q1 8 (fun _ => 0), lzTp q4 u4 (fun _ => 0), lzI G (u4 0) 120 (fun _ => 0), lzDoor G q6 u6 (fun _ => 0) (fun _ _ => 0), lzDoor G q7 u7 (fun _ => 0) (fun _ _ => 0), lzAc q8 (fun _ => u8.1) (fun _ => 0), lzQ G 3 u8.1 24 (fun i => some (u8.2.1 i)), ringW G u8.2.1 u8.2.2 (fun _ _ => 0) (fun _ _ _ => 0), lzQ G 3 q9 2 (fun j => some (adL [qa, qb] j)), lzDoor G qa ua (fun _ => 0) (fun _ _ => 0), lzDoor G qb ub (fun _ => 0) (fun _ _ => 0), lzI G qt 16 (fun _ => 0), lzL G qc 9 (fun _ => 0), lzQ G 4 q0 8 (fun i => some (r i)), mapI (fun i => lzI G (r i) 40 (fun _ => 0)) 8] : List va_W)).flatten).Perm (XW0 G (adX h (adL [q0, q1, q2, 0, q4, 0, q6, q7, q8, q9, qt, 0, qc]) u4 u6 u7 u8.1 u8.2.1 u8.2.2 r (adL [qa, qb]) (fun i => if i = 0 then ua else ub))) := by
    refine (perm_flat (L := lzI G q2 8 (fa_fill (fun _ => -1000000) (fun _ => 0) 8) :: ([[(h, .inr (3, [.ref q0, .ref q1, .ref q2, .int 0, .ref q4, .int 0, .ref q6, .ref q7, .ref q8, .ref q9, .ref qt, .int 0, .ref qc]))], lzI G q1 8 (fun _ => 0), lzTp q4 u4 (fun _ => 0), lzI G (u4 0) 120 (fun _ => 0), lzDoor G q6 u6 (fun _ => 0) (fun _ _ => 0), lzDoor G q7 u7 (fun _ => 0) (fun _ _ => 0), lzAc q8 (fun _ => u8.1) (fun _ => 0), lzQ G 3 u8.1 24 (fun i => some (u8.2.1 i)), ringW G u8.2.1 u8.2.2 (fun _ _ => 0) (fun _ _ _ => 0), lzQ G 3 q9 2 (fun j => some (adL [qa, qb] j)), lzDoor G qa ua (fun _ => 0) (fun _ _ => 0), lzDoor G qb ub (fun _ => 0) (fun _ _ => 0), lzI G qt 16 (fun _ => 0), lzL G qc 9 (fun _ => 0), lzQ G 4 q0 8 (fun i => some (r i)), mapI (fun i => lzI G (r i) 40 (fun _ => 0)) 8] : List va_W)) (L' := ([[(h, .inr (3, [.ref q0, .ref q1, .ref q2, .int 0, .ref q4, .int 0, .ref q6, .ref q7, .ref q8, .ref q9, .ref qt, .int 0, .ref qc]))], lzI G q1 8 (fun _ => 0), lzI G q2 8 (fa_fill (fun _ => -1000000) (fun _ => 0) 8), lzTp q4 u4 (fun _ => 0), lzI G (u4 0) 120 (fun _ => 0), lzDoor G q6 u6 (fun _ => 0) (fun _ _ => 0), lzDoor G q7 u7 (fun _ => 0) (fun _ _ => 0), lzAc q8 (fun _ => u8.1) (fun _ => 0), lzQ G 3 u8.1 24 (fun i => some (u8.2.1 i)), ringW G u8.2.1 u8.2.2 (fun _ _ => 0) (fun _ _ _ => 0), lzQ G 3 q9 2 (fun j => some (adL [qa, qb] j)), lzDoor G qa ua (fun _ => 0) (fun _ _ => 0), lzDoor G qb ub (fun _ => 0) (fun _ _ => 0), lzI G qt 16 (fun _ => 0), lzL G qc 9 (fun _ => 0), lzQ G 4 q0 8 (fun i => some (r i)), mapI (fun i => lzI G (r i) 40 (fun _ => 0)) 8] : List va_W)) (perm_parts [1, 2, 0, 3, 4, 5, 6, 7, 8, 9, 10, 11, 12, 13, 14, 15, 16] rfl (show List.Perm _ (List.range 17) by decide))).trans (List.Perm.of_eq ?_)
    unfold XW0 XW xwL
    rw [mapI_2]
    simp only [List.flatten_cons, List.flatten_nil, List.append_nil, List.append_assoc]
    rfl
  replace hP := P_perm hp2 hP
  replace hD := D_perm hp2 hD
  exact W.vret hx hb hr (fun t ht hW => ⟨⟨adX h (adL [q0, q1, q2, 0, q4, 0, q6, q7, q8, q9, qt, 0, qc]) u4 u6 u7 u8.1 u8.2.1 u8.2.2 r (adL [qa, qb]) (fun i => if i = 0 then ua else ub), rfl, rfl, by rw [ht]; exact hP, hD⟩, hS.F ht⟩) hS.2.2 dX3_init_144
