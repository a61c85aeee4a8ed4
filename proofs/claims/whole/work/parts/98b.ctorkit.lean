/-! makings: what comes new joins what was there -/
theorem va_AOA.moved {ty : FieldType} {u U : State} (hvm : u.vm.Alike U.vm) (h : va_AOA ty u) : va_AOA ty U := by
  obtain ⟨comp, c, k, h1, h2, h3, h4, h5⟩ := arrayOverA_spec h
  obtain ⟨k', hk', he⟩ := hvm.2.2 _ _ h3
  have hi : (U.vm.classes.findIdx? fun (x : Class) => match x.kind with | .array component _ => component == comp | _ => false) = some c := by
    have e1 := va_idx_bare U.vm comp
    have e2 := va_idx_bare u.vm comp
    first | rw [hvm.bare_eq] at e1 | rw [← hvm.bare_eq] at e1
    exact e1.symm.trans (e2.trans h2)
  have hkind : k'.kind = .array comp (.array ty) := by rw [he]; exact h4
  have f1 : U.vm.findClass (FieldType.array ty).toString = some comp := by rw [hvm.findClass]; exact h1
  have f2 : U.vm.findClass ("[" ++ (FieldType.array ty).toString) = some c := by rw [hvm.findClass]; exact h5
  unfold va_AOA Cond.before Cond.holds
  simp only [Cond.value]
  rw [f1, Option.bind_some]
  refine (congrArg (fun o : Option Nat => (o.bind (fun c => (U.vm.classes[c]?).map fun (k : Class) => match k.kind with | .array _ ty2 => decide (ty2 = FieldType.array ty) && decide (U.vm.findClass ("[" ++ (FieldType.array ty).toString) = some c) | _ => false) == some true)) hi).trans ?_
  simp [hk', hkind, f2]
theorem ra_uniq {U : State} {cA cB : ClassId} {ty : FieldType} (h1 : va_RA U cA ty) (h2 : va_RA U cB ty) : cA = cB := by
  cases ty with
  | object C =>
    obtain ⟨k1, c1, -, -, -, e1⟩ := h1
    obtain ⟨k2, c2, -, -, -, e2⟩ := h2
    exact Option.some.inj (e1.symm.trans e2)
  | _ => exact Option.some.inj (h1.symm.trans h2)
theorem arrV_congr {cA : ClassId} {N : Nat} {f g : Nat → Value} (h : ∀ j, j < N → f j = g j) : arrV cA N f = arrV cA N g := by
  unfold arrV
  congr 1
  apply Array.ext
  · simp
  · intro i h1 h2
    simp only [Array.getElem_ofFn]
    exact h i (by simpa using h1)
theorem P_all {D : va_G} {cl : List vw_C} {ws : va_W} {H : Heap} : va_P D cl ws H ↔ ∀ q, q ∈ ws → va_at D cl q H := by
  constructor
  · intro h q hq
    obtain ⟨i, hi⟩ := List.getElem?_of_mem hq
    exact h i q hi
  · intro h k q hk
    exact h q (List.mem_of_getElem? hk)
/-- a row of references, told otherwise beyond its end -/
theorem P_refs {D : va_G} {cl : List vw_C} {X Z : va_W} {H : Heap} {a n : Nat} {cA : ClassId} {f g : Nat → Option Nat} (hP : va_P D cl (X ++ (a, .inl (cA, n, .inr (.inr (.inr (.inr f))))) :: Z) H) (h : ∀ j, j < n → f j = g j) : va_P D cl (X ++ (a, .inl (cA, n, .inr (.inr (.inr (.inr g))))) :: Z) H := by
  rw [P_all] at hP ⊢
  intro q hq
  rcases List.mem_append.mp hq with hq | hq
  · exact hP q (List.mem_append_left _ hq)
  · rcases List.mem_cons.mp hq with hq | hq
    · subst hq
      have h1 := hP (a, .inl (cA, n, .inr (.inr (.inr (.inr f))))) (List.mem_append_right _ List.mem_cons_self)
      have h2 : H[a]? = some (vp_cell cA (n, .inr (.inr (.inr (.inr f))))) := h1
      show H[a]? = some (vp_cell cA (n, .inr (.inr (.inr (.inr g)))))
      rw [h2, vp_cell_q, vp_cell_q]
      exact congrArg some (arrV_congr (fun j hj => by rw [h j hj]))
    · exact hP q (List.mem_append_right _ (List.mem_cons_of_mem _ hq))
theorem D_refs {A : Nat → Prop} {X Z : va_W} {a : Nat} {x y : va_E} (hD : va_D A (X ++ (a, x) :: Z)) : va_D A (X ++ (a, y) :: Z) :=
  va_D_fst (by rw [List.map_append, List.map_append, List.map_cons, List.map_cons]) hD
/-- behind a call that makes: the caller's other cells, and what the callee leaves of its own -/
theorem mk_join {A : Nat → Prop} {D : va_G} {cl : List vw_C} {X wc w1 : va_W} {H H1 : Heap} (hP : va_P D cl (X ++ wc) H) (hD : va_D A (X ++ wc)) (hF : ∀ q, va_A wc H.size q → A q) (hk : ∀ q : Nat, q < H.size → ¬ va_A wc H.size q → H1[q]? = H[q]?) (hP1 : va_P D cl w1 H1) (hD1 : va_D (va_A wc H.size) w1) : va_P D cl (X ++ w1) H1 ∧ va_D A (X ++ w1) := by
  obtain ⟨g1, g2⟩ := P_split hP
  obtain ⟨d1, d2, d3⟩ := D_split hD
  have hx : ∀ (k : Nat) (q : Nat × va_E), X[k]? = some q → ¬ va_A wc H.size q.1 := by
    rintro k q hq (⟨j, e, hj⟩ | h)
    · exact d3 k j q (q.1, e) hq hj rfl
    · exact absurd ((g1 k q hq).lt) (by omega)
  refine ⟨P_app (fun k q hq => (g1 k q hq).kept (hk q.1 ((g1 k q hq).lt) (hx k q hq))) hP1, va_D.app d1 (hD1.weaken (fun k q hq h => hF _ h)) (fun i j x y hi hj e => ?_)⟩
  exact hx i x hi (by rw [e]; exact hD1.2 j y hj)
theorem mk_free {A : Nat → Prop} {X wc : va_W} {H0 H : Heap} {locs : List Loc} (hD : va_D A (X ++ wc)) (hS : va_S A H0 H locs) (hA : ∀ q, H0.size ≤ q → A q) : ∀ q, va_A wc H.size q → A q := by
  rintro q (⟨k, e, h⟩ | h)
  · exact (D_split hD).2.1.2 k (q, e) h
  · exact hA q (Nat.le_trans hS.1 h)
section MKL
variable {p : Program} {l : Launch} {e : Env} {R : Room} {s : State} {m : MethodId} {args : Array Value} {below : List Frame} {meth : Method} {c : Code} {H : Heap} {locs : List Loc} {cells slots : Nat} {Q : State → Prop}
variable {cc : ByteArray} {pc : Nat} {ls : Array Slot} {rest : List Value} {a : Nat} {ws : va_W} {H0 : Heap} {G : lzG} {A : Nat → Prop}
theorem lz_newi (hexec : p.tables.exec = Jvm.exec) (hb : c.code = cc) (harr : (Cond.arrayClass .int).before args s = true) (hK : lzK G s) (hP : va_P G.1 lzC ws H) (hD : va_D A ws) (hS : va_S A H0 H locs) (hA : ∀ q, H0.size ≤ q → A q) {n : Nat} (hn : n < 10000) (hcells : cells + 1 ≤ R.cells) (hslots : slots + n ≤ R.slots) (hdg : decode cc pc = .ok (.newarray .int, 2))
    (kk : ∀ (q : Nat) (H1 : Heap), va_P G.1 lzC (ws ++ [(q, .inl (G.2 0, n, .inl (fun _ => 0)))]) H1 → va_D A (ws ++ [(q, .inl (G.2 0, n, .inl (fun _ => 0)))]) → va_S A H0 H1 locs → W p l e R s m args below meth c H1 locs (cells + 1) (slots + n) Q (F0 m (pc + 2) ls (.ref q :: rest))) : W p l e R s m args below meth c H locs cells slots Q (F0 m pc ls (.int (nI n) :: rest)) := by
  refine va_newa (atype := .int) hexec hb harr (ty := .int) rfl hK.1 hP hD hS hA (N' := n) (a0 := (n, .inl (fun _ => 0))) (fun _ => rfl) (nI_pos (by omega)) (nI_clamp (by omega)) (by show n * 4 ≤ _; omega) hcells hslots hdg (fun q cA H1 hK2 hP hD hS => ?_)
  have e : cA = G.2 0 := ra_uniq (hK2.2 5 _ rfl).2 (hK.1.2 0 _ rfl).2
  subst e
  exact kk q H1 hP hD hS
theorem lz_newl (hexec : p.tables.exec = Jvm.exec) (hb : c.code = cc) (harr : (Cond.arrayClass .long).before args s = true) (hK : lzK G s) (hP : va_P G.1 lzC ws H) (hD : va_D A ws) (hS : va_S A H0 H locs) (hA : ∀ q, H0.size ≤ q → A q) {n : Nat} (hn : n < 10000) (hcells : cells + 1 ≤ R.cells) (hslots : slots + n ≤ R.slots) (hdg : decode cc pc = .ok (.newarray .long, 2))
    (kk : ∀ (q : Nat) (H1 : Heap), va_P G.1 lzC (ws ++ [(q, .inl (G.2 1, n, .inr (.inl (fun _ => 0))))]) H1 → va_D A (ws ++ [(q, .inl (G.2 1, n, .inr (.inl (fun _ => 0))))]) → va_S A H0 H1 locs → W p l e R s m args below meth c H1 locs (cells + 1) (slots + n) Q (F0 m (pc + 2) ls (.ref q :: rest))) : W p l e R s m args below meth c H locs cells slots Q (F0 m pc ls (.int (nI n) :: rest)) := by
  refine va_newa (atype := .long) hexec hb harr (ty := .long) rfl hK.1 hP hD hS hA (N' := n) (a0 := (n, .inr (.inl (fun _ => 0)))) (fun _ => rfl) (nI_pos (by omega)) (nI_clamp (by omega)) (by show n * 8 ≤ _; omega) hcells hslots hdg (fun q cA H1 hK2 hP hD hS => ?_)
  have e : cA = G.2 1 := ra_uniq (hK2.2 5 _ rfl).2 (hK.1.2 1 _ rfl).2
  subst e
  exact kk q H1 hP hD hS
theorem lz_newz (hexec : p.tables.exec = Jvm.exec) (hb : c.code = cc) (harr : (Cond.arrayClass .boolean).before args s = true) (hK : lzK G s) (hP : va_P G.1 lzC ws H) (hD : va_D A ws) (hS : va_S A H0 H locs) (hA : ∀ q, H0.size ≤ q → A q) {n : Nat} (hn : n < 10000) (hcells : cells + 1 ≤ R.cells) (hslots : slots + n ≤ R.slots) (hdg : decode cc pc = .ok (.newarray .boolean, 2))
    (kk : ∀ (q : Nat) (H1 : Heap), va_P G.1 lzC (ws ++ [(q, .inl (G.2 2, n, .inl (fun _ => 0)))]) H1 → va_D A (ws ++ [(q, .inl (G.2 2, n, .inl (fun _ => 0)))]) → va_S A H0 H1 locs → W p l e R s m args below meth c H1 locs (cells + 1) (slots + n) Q (F0 m (pc + 2) ls (.ref q :: rest))) : W p l e R s m args below meth c H locs cells slots Q (F0 m pc ls (.int (nI n) :: rest)) := by
  refine va_newa (atype := .boolean) hexec hb harr (ty := .boolean) rfl hK.1 hP hD hS hA (N' := n) (a0 := (n, .inl (fun _ => 0))) (fun _ => rfl) (nI_pos (by omega)) (nI_clamp (by omega)) (by show n * 1 ≤ _; omega) hcells hslots hdg (fun q cA H1 hK2 hP hD hS => ?_)
  have e : cA = G.2 2 := ra_uniq (hK2.2 5 _ rfl).2 (hK.1.2 2 _ rfl).2
  subst e
  exact kk q H1 hP hD hS
theorem lz_newd (hexec : p.tables.exec = Jvm.exec) (hb : c.code = cc) {own : String} {index : Nat} (hown : s.vm.findClass own = some m.cls) (hclink : (Cond.classLink own index RX1).before args s = true) (hover : va_AO RX1 s) (hK : lzK G s) (hP : va_P G.1 lzC ws H) (hD : va_D A ws) (hS : va_S A H0 H locs) (hA : ∀ q, H0.size ≤ q → A q) {n : Nat} (hn : n < 10000) (hcells : cells + 1 ≤ R.cells) (hslots : slots + n ≤ R.slots) (hdg : decode cc pc = .ok (.anewarray index, 3))
    (kk : ∀ (q : Nat) (H1 : Heap), va_P G.1 lzC (ws ++ [(q, .inl (G.2 3, n, .inr (.inr (.inr (.inr (fun _ => none))))))]) H1 → va_D A (ws ++ [(q, .inl (G.2 3, n, .inr (.inr (.inr (.inr (fun _ => none))))))]) → va_S A H0 H1 locs → W p l e R s m args below meth c H1 locs (cells + 1) (slots + n) Q (F0 m (pc + 3) ls (.ref q :: rest))) : W p l e R s m args below meth c H locs cells slots Q (F0 m pc ls (.int (nI n) :: rest)) := by
  refine va_newq hexec hb hown hclink hover hK.1 hP hD hS hA (N' := n) (nI_pos (by omega)) (nI_clamp (by omega)) (by omega) hcells hslots hdg (fun q cA H1 hK2 hP hD hS => ?_)
  have e : cA = G.2 3 := ra_uniq (hK2.2 5 _ rfl).2 (hK.1.2 3 _ rfl).2
  subst e
  exact kk q H1 hP hD hS
/-- a reference into a final field -/
theorem lz_putR (hexec : p.tables.exec = Jvm.exec) (hb : c.code = cc) {own ref C : String} {T : u_T} {N ci index : Nat} {Ts : List Cond} (hts : ∀ w ∈ Ts, w.before args s = true) (hin : ∀ w ∈ u_ws C T N, w ∈ Ts) (ty0 : Nat → FieldType) (hty : ∀ k, k < N → parseFieldDescriptor (T k).2.2.1 = some (ty0 k)) (hnm : ∀ a, a < N → ∀ b, b < N → a ≠ b → (T a).2.1 ≠ (T b).2.1) (hown : s.vm.findClass own = some m.cls) (hK : lzK G s) (hP : va_P G.1 lzC ws H) (hD : va_D A ws) (hS0 : va_S A H0 H locs) (q0 : Nat) {fs : List Value} (he : ws[q0]? = some (a, .inr (ci, fs))) (hc : lzC[ci]? = some (C, T, N)) (k : Nat) (hk : k < N) (hlink : (Cond.fieldLink own index ref (T k).2.1 (T k).2.2.1).before args s = true) (href : ref = (T k).1) (hfin : (T k).2.2.2 = true) (hin2 : meth.name = "<init>") (hdecl : (T k).1 = own) {ty : FieldType} {v : Nat} (hd : parseFieldDescriptor (T k).2.2.1 = some ty) (hn : narrow ty (.ref v) = .ref v) (hfit : fits ty (.ref v) = true) (hl : k < fs.length)
    (hdg : decode cc pc = .ok (.putfield index, 3)) (ws2 : va_W) (hw2 : ws.set q0 (a, .inr (ci, fs.set k (.ref v))) = ws2) (kk : ∀ (H1 : Heap) (locs1 : List Loc), va_P G.1 lzC ws2 H1 → va_D A ws2 → va_S A H0 H1 locs1 → W p l e R s m args below meth c H1 locs1 cells slots Q (F0 m (pc + 3) ls rest)) : W p l e R s m args below meth c H locs cells slots Q (F0 m pc ls (.ref v :: .ref a :: rest)) := by
  subst href
  subst hw2
  exact va_putF hexec hb hts hin ty0 hty hnm hown hK.1 hP hD hS0 q0 he hc k hk hlink (fun _ h => h) hfin hin2 hdecl hd hn hfit hl hdg kk
end MKL
/-- a list of addresses as a function -/
def adL (l : List Nat) : Nat → Nat := fun k => l.getD k 0
/-- the doors of a ring, the first k -/
def ringP (G : lzG) (rh : Nat → Nat) (rq : Nat → Nat → Nat) (k : Nat) : va_W := mapI (fun i => lzDoor G (rh i) (rq i) (fun _ => 0) (fun _ _ => 0)) k
theorem mapI_s {α : Type} (g : Nat → List α) (k : Nat) : mapI g (k + 1) = mapI g k ++ g k := by
  unfold mapI
  rw [List.range_succ, List.flatMap_append, List.flatMap_singleton]
theorem mapI_cong {α : Type} {g h : Nat → List α} {n : Nat} (e : ∀ i, i < n → g i = h i) : mapI g n = mapI h n := by
  unfold mapI
  rw [List.flatMap_def, List.flatMap_def]
  congr 1
  apply List.map_congr_left
  intro i hi
  exact e i (List.mem_range.mp hi)
theorem ringP_s {G : lzG} {rh : Nat → Nat} {rq : Nat → Nat → Nat} {k a : Nat} {u : Nat → Nat} : ringP G (va_up rh k a) (va_up rq k u) (k + 1) = ringP G rh rq k ++ lzDoor G a u (fun _ => 0) (fun _ _ => 0) := by
  unfold ringP
  rw [mapI_s, va_up_self, va_up_self]
  congr 1
  refine mapI_cong (fun i hi => ?_)
  rw [va_up_ne rh a (by omega), va_up_ne rq u (by omega)]
/-- so many references, the rest null -/
def fstR (rh : Nat → Nat) (k : Nat) : Nat → Option Nat := fun j => if j < k then some (rh j) else none
theorem fstR_s {rh : Nat → Nat} {k a : Nat} : va_up (fstR rh k) k (some a) = fstR (va_up rh k a) (k + 1) := by
  funext j
  unfold fstR va_up
  by_cases q : j = k
  · subst q
    rw [if_pos rfl, if_pos (by omega), if_pos rfl]
  · rw [if_neg q]
    show (if j < k then some (rh j) else none) = _
    by_cases w : j < k
    · rw [if_pos w, if_pos (by omega), if_neg q]
    · rw [if_neg w, if_neg (by omega)]
theorem fstR_0 {rh : Nat → Nat} : fstR rh 0 = fun _ => none := by
  funext j
  exact if_neg (by omega)
theorem rows_mk {G : lzG} {r : Nat → Nat} {f : Nat → va_E} {n k : Nat} : va_pl ([] ++ (List.range n).map r) (vr_up f ((List.range n).map r) (.inl (G.2 0, k, .inl (fun _ => 0)))) = mapI (fun i => lzI G (r i) k (fun _ => 0)) n := by
  unfold va_pl mapI
  rw [List.nil_append, List.map_map, List.flatMap_def]
  have e : ∀ i, i < n → vr_up f ((List.range n).map r) (.inl (G.2 0, k, .inl (fun _ => 0))) (r i) = (.inl (G.2 0, k, .inl (fun _ => 0)) : va_E) := fun i hi => vr_up_in (List.mem_map.mpr ⟨i, List.mem_range.mpr hi, rfl⟩)
  have h2 : (List.range n).map ((fun a => (a, vr_up f ((List.range n).map r) (.inl (G.2 0, k, .inl (fun _ => 0))) a)) ∘ r) = (List.range n).map (fun i => ((r i, .inl (G.2 0, k, .inl (fun _ => 0))) : Nat × va_E)) := by
    apply List.map_congr_left
    intro i hi
    show (r i, _) = _
    rw [e i (List.mem_range.mp hi)]
  rw [h2]
  induction List.range n with
  | nil => rfl
  | cons a L ih => rw [List.map_cons, List.map_cons, List.flatten_cons, ih]; rfl
