/-! my own kit: worlds without makings: the same addresses ahead and behind -/
abbrev lzC : List vw_C := [(RX0, TX0, 3), (RX1, TX1, 14), (RX2, TX2, 4), (RX3, TX3, 13), (RX4, TX4, 24)]
/-- where the classes' slots lie; the array classes: 0 int, 1 long, 2 boolean, 3 Door, 4 int[] -/
abbrev lzG : Type := va_G × (Nat → ClassId)
def lzT (G : lzG) : List (ClassId × FieldType) := [(G.2 0, .int), (G.2 1, .long), (G.2 2, .boolean), (G.2 3, .object RX1), (G.2 4, .array .int)]
def lzNl : List Cond := [.methodLinkNest RX1 68 yX3_isIn RX3, .methodLinkNest RX1 76 yX3_isOfKind RX3, .methodLinkNest RX1 84 yX3_isClickedBy RX3, .methodLinkNest RX2 76 yX3_isIn RX3, .methodLinkNest RX3 27 yX2_init RX3, .methodLinkNest RX3 37 yX1_init RX3, .methodLinkNest RX0 24 yX1_init RX3]
def lzN (U : State) : Prop := ∀ w ∈ lzNl, va_Nw w U
def lzK (G : lzG) (U : State) : Prop := va_K G.1 lzC (lzT G) U ∧ lzN U
theorem lzN_form : ∀ w ∈ lzNl, ∃ a i x h, w = Cond.methodLinkNest a i x h := by
  intro w hw
  simp only [lzNl, List.mem_cons, List.not_mem_nil, or_false] at hw
  rcases hw with h | h | h | h | h | h | h <;> exact ⟨_, _, _, _, h⟩
theorem lzN.warm {s U : State} (hW : s.WarmedH U.vm) (h : lzN s) : lzN U := fun w hw => by
  obtain ⟨a, i, x, hh, rfl⟩ := lzN_form w hw
  exact va_Nw.warmM hW (h _ hw)
theorem lzK.warm {G : lzG} {s U : State} (hW : s.WarmedH U.vm) (h : lzK G s) : lzK G U := ⟨va_K.moved hW.alike h.1, h.2.warm hW⟩
theorem lzK.calling {G : lzG} {U : State} (g : JFrame) (mk : MethodId) (a : Array Value) (h : lzK G U) : lzK G (U.calling g mk a) :=
  ⟨va_K.moved (u := U) (U := U.calling g mk a) (Vm.Alike.refl U.vm) h.1, fun w hw => by
    obtain ⟨x1, x2, x3, x4, rfl⟩ := lzN_form w hw
    exact va_Nw.same (u := U) (U := U.calling g mk a) rfl rfl (h.2 _ hw)⟩
/-- read only: a method's start -/
def roP (G : lzG) (cells : va_W) : State → Prop := fun U => va_P G.1 lzC cells U.heap ∧ lzK G U
theorem ro_pre {s : State} {H : Heap} {As : List Value} {G : lzG} {cells : va_W} (hK : lzK G s) (hP : va_P G.1 lzC cells H) : PreS s H (va_Pc As (roP G cells)) As :=
  ⟨fun a U g mk q => ⟨q.1, q.2.1, q.2.2.calling g mk a⟩, fun U hU hW => ⟨rfl, by rw [hU]; exact hP, hK.warm hW⟩⟩
theorem ro_preV {s : State} {H : Heap} {b : Nat} {As : List Value} {G : lzG} {cells ws : va_W} (hK : lzK G s) (hP : va_P G.1 lzC cells H) (hPw : va_P G.1 lzC ws H) {ci q0 : Nat} {C : String} {T : u_T} {N : Nat} {fs : List Value} (hc : lzC[ci]? = some (C, T, N)) (he : ws[q0]? = some (b, .inr (ci, fs))) : PreV s H C b (va_Pc (.ref b :: As) (roP G cells)) As :=
  ⟨fun a U g mk q => ⟨q.1, q.2.1, q.2.2.calling g mk a⟩, va_recv hK.1 hPw hc he, fun U hU hW => ⟨rfl, by rw [hU]; exact hP, hK.warm hW⟩⟩
/-- the addresses of a world -/
def lzA (ws : va_W) : Nat → Prop := fun q => ∃ (k : Nat) (e : va_E), ws[k]? = some (q, e)
def rwP (G : lzG) (ws : va_W) : State → Prop := fun U => va_P G.1 lzC ws U.heap ∧ lzK G U ∧ va_D (fun _ => True) ws
def rwB {S : Type} (G : lzG) (Wd : S → va_W) : S → State → Prop := fun u t => va_P G.1 lzC (Wd u) t.heap
theorem rw_pre {s : State} {H : Heap} {As : List Value} {G : lzG} {ws : va_W} {A : Nat → Prop} (hK : lzK G s) (hP : va_P G.1 lzC ws H) (hD : va_D A ws) : PreS s H (va_Pc As (rwP G ws)) As :=
  ⟨fun a U g mk q => ⟨q.1, q.2.1, q.2.2.1.calling g mk a, q.2.2.2⟩, fun U hU hW => ⟨rfl, by rw [hU]; exact hP, hK.warm hW, hD.weaken (fun _ _ _ _ => trivial)⟩⟩
theorem rw_preV {s : State} {H : Heap} {b : Nat} {As : List Value} {G : lzG} {cells ws : va_W} {A : Nat → Prop} (hK : lzK G s) (hP : va_P G.1 lzC cells H) (hD : va_D A cells) (hPw : va_P G.1 lzC ws H) {ci q0 : Nat} {C : String} {T : u_T} {N : Nat} {fs : List Value} (hc : lzC[ci]? = some (C, T, N)) (he : ws[q0]? = some (b, .inr (ci, fs))) : PreV s H C b (va_Pc (.ref b :: As) (rwP G cells)) As :=
  ⟨fun a U g mk q => ⟨q.1, q.2.1, q.2.2.1.calling g mk a, q.2.2.2⟩, va_recv hK.1 hPw hc he, fun U hU hW => ⟨rfl, by rw [hU]; exact hP, hK.warm hW, hD.weaken (fun _ _ _ _ => trivial)⟩⟩
section LZ
variable {p : Program} {l : Launch} {e : Env} {R : Room} {s : State} {m : MethodId} {args : Array Value} {below : List Frame} {meth : Method} {c : Code} {H : Heap} {locs : List Loc} {cells slots : Nat} {Q : State → Prop}
variable {cc : ByteArray} {pc : Nat} {ls : Array Slot} {rest st0 : List Value} {a : Nat} {ws : va_W} {H0 : Heap} {G : lzG} {A : Nat → Prop}
theorem ro_calli {post : Int32 → Prop} {av : Array Value} (hr : va_Run p l e R s m args below meth c H locs cells slots 0 0 (F0 m pc ls st0) rest (vp_Si post av) (fun _ => False))
    (kk : ∀ r : Int32, post r → W p l e R s m args below meth c H locs cells slots Q (F0 m (pc + 3) ls (.int r :: rest))) : W p l e R s m args below meth c H locs cells slots Q (F0 m pc ls st0) := by
  intro T hT X
  obtain ⟨v, st₀, t, T', L, h0, X', hL, e1, e2, ⟨r, hv, hp, hh⟩, st⟩ := hr T hT X
  cases hv
  obtain ⟨t2, a1, b1⟩ := kk r hp T' (by rw [e1, hh, h0]) (Stand.forget X' (fun q h => (hL q h).elim))
  exact ⟨t2, st t2 a1, b1⟩
theorem ro_calll {post : Int64 → Prop} {av : Array Value} (hr : va_Run p l e R s m args below meth c H locs cells slots 0 0 (F0 m pc ls st0) rest (vp_Sl post av) (fun _ => False))
    (kk : ∀ r : Int64, post r → W p l e R s m args below meth c H locs cells slots Q (F0 m (pc + 3) ls (.long r :: rest))) : W p l e R s m args below meth c H locs cells slots Q (F0 m pc ls st0) := by
  intro T hT X
  obtain ⟨v, st₀, t, T', L, h0, X', hL, e1, e2, ⟨r, hv, hp, hh⟩, st⟩ := hr T hT X
  cases hv
  obtain ⟨t2, a1, b1⟩ := kk r hp T' (by rw [e1, hh, h0]) (Stand.forget X' (fun q h => (hL q h).elim))
  exact ⟨t2, st t2 a1, b1⟩
theorem ro_start {y : MethodName} {ws ws' : List Cond} {rm : Room} {As : List Value} {wd : va_W} {Qc : Array Value → State → Outcome → State → Prop} {maxL : Nat} {ret : Option FieldType}
    (hy : plainName y.cls = true) (hw : ws = Cond.code y cc maxL ret :: ws') (hlen : (lg_sl As).length ≤ maxL)
    (body : ∀ (p : Program) (e : Env) (s : State) (m : MethodId) (below : List Frame) (meth : Method) (c : Code), p.tables.exec = Jvm.exec → c.code = cc → meth.sig.returnType = ret → meth.locks = false → c.maxLocals = maxL → (∀ w ∈ ws, w.before As.toArray s = true) → s.vm.findClass y.cls = some m.cls → va_P G.1 lzC wd s.heap → lzK G s →
      ∀ ls : Array Slot, lv_has ls maxL (lv_args 0 As) → W p l e rm s m As.toArray below meth c s.heap [] 0 0 (MQ below Qc As.toArray s 0 0 (fun _ => False)) (F0 m 0 ls [])) :
    Met l y ws rm (va_Pc As (roP G wd)) Qc 0 0 (fun _ => False) := by
  refine Met.ofW (cc := cc) (maxL := maxL) (ret := ret) hy hw ?_
  intro p e s m args below meth c s₁ B hml hv
  obtain ⟨rfl, hP, hK⟩ := hv
  have hl := lv_entry As (n := maxL) hlen
  rw [lg_entry_eq]
  exact body p e s m below meth c B.exec B.bytes B.returns B.notSynchronized hml (atoms_spec (ws := ws) B.pre) (findClass_of_methodNamed B.named) hP hK _ hl
theorem ro_iret {post : Int32 → Prop} {v : Int32} (hexec : p.tables.exec = Jvm.exec) (hb : c.code = cc) (hr : meth.sig.returnType = some .int) (hlocks : meth.locks = false) (hdg : decode cc pc = .ok (.ireturn, 1)) (hq : post v) :
    W p l e R s m args below meth c s.heap [] 0 0 (MQ below (vp_Si post) args s 0 0 (fun _ => False)) (F0 m pc ls [.int v]) :=
  W.iret hexec hb hr (fun t ht _ => ⟨v, rfl, hq, ht⟩) (fun q h => by cases h) hdg hlocks
theorem ro_lret {post : Int64 → Prop} {v : Int64} (hexec : p.tables.exec = Jvm.exec) (hb : c.code = cc) (hr : meth.sig.returnType = some .long) (hlocks : meth.locks = false) (hdg : decode cc pc = .ok (.lreturn, 1)) (hq : post v) :
    W p l e R s m args below meth c s.heap [] 0 0 (MQ below (vp_Sl post) args s 0 0 (fun _ => False)) (F0 m pc ls [.long v]) :=
  W.lret hexec hb hr (fun t ht _ => ⟨v, rfl, hq, ht⟩) (fun q h => by cases h) hdg hlocks
/-- a truth value as the machine has it -/
def b2 (b : Bool) : Int32 := bif b then 1 else 0
theorem b2_t : b2 true = 1 := rfl
theorem b2_f : b2 false = 0 := rfl
theorem b2_z {r : Int32} {b : Bool} (h : r = b2 b) (c : r = 0) : b = false := by
  cases b
  · rfl
  · rw [h] at c; exact absurd c (by decide)
theorem b2_n {r : Int32} {b : Bool} (h : r = b2 b) (c : ¬ r = 0) : b = true := by
  cases b
  · exact absurd h c
  · rfl
theorem b2_nz (b : Bool) : narrow .boolean (.int (b2 b)) = .int (b2 b) := by cases b <;> rfl
theorem ro_zret {B : Bool} {v : Int32} (hexec : p.tables.exec = Jvm.exec) (hb : c.code = cc) (hr : meth.sig.returnType = some .boolean) (hlocks : meth.locks = false) (hdg : decode cc pc = .ok (.ireturn, 1)) (hq : v = b2 B) :
    W p l e R s m args below meth c s.heap [] 0 0 (MQ below (vp_Si (fun r => r = b2 B)) args s 0 0 (fun _ => False)) (F0 m pc ls [.int v]) := by
  subst hq
  exact W.zret hexec hb hr (b2_nz B) (fun t ht _ => ⟨_, rfl, rfl, ht⟩) (fun q h => by cases h) hdg hlocks
/-- the computed number on top under another name -/
theorem lz_top {x y : Int32} (h : x = y) (k : W p l e R s m args below meth c H locs cells slots Q (F0 m pc ls (.int y :: rest))) : W p l e R s m args below meth c H locs cells slots Q (F0 m pc ls (.int x :: rest)) := by rw [h]; exact k
theorem lz_topl {x y : Int64} (h : x = y) (k : W p l e R s m args below meth c H locs cells slots Q (F0 m pc ls (.long y :: rest))) : W p l e R s m args below meth c H locs cells slots Q (F0 m pc ls (.long x :: rest)) := by rw [h]; exact k
theorem lz_get (hexec : p.tables.exec = Jvm.exec) (hb : c.code = cc) {own ref C : String} {T : u_T} {N ci index : Nat} {Ts : List Cond} (hts : ∀ w ∈ Ts, w.before args s = true) (hin : ∀ w ∈ u_ws C T N, w ∈ Ts) (hown : s.vm.findClass own = some m.cls) (hK : lzK G s) (hP : va_P G.1 lzC ws H) (q0 : Nat) {fs : List Value} (he : ws[q0]? = some (a, .inr (ci, fs))) (hc : lzC[ci]? = some (C, T, N)) (k : Nat) (hk : k < N) (hlink : (Cond.fieldLink own index ref (T k).2.1 (T k).2.2.1).before args s = true) (href : ref = (T k).1) {v : Value} (hv : fs[k]? = some v) (hdg : decode cc pc = .ok (.getfield index, 3))
    (kk : W p l e R s m args below meth c H locs cells slots Q (F0 m (pc + 3) ls (v :: rest))) : W p l e R s m args below meth c H locs cells slots Q (F0 m pc ls (.ref a :: rest)) := by
  subst href
  exact va_get hexec hb hts hin hown hK.1 hP q0 he hc k hk hlink (fun _ h => h) hv hdg kk
theorem lz_put (hexec : p.tables.exec = Jvm.exec) (hb : c.code = cc) {own ref C : String} {T : u_T} {N ci index : Nat} {Ts : List Cond} (hts : ∀ w ∈ Ts, w.before args s = true) (hin : ∀ w ∈ u_ws C T N, w ∈ Ts) (ty0 : Nat → FieldType) (hty : ∀ k, k < N → parseFieldDescriptor (T k).2.2.1 = some (ty0 k)) (hnm : ∀ a, a < N → ∀ b, b < N → a ≠ b → (T a).2.1 ≠ (T b).2.1) (hown : s.vm.findClass own = some m.cls) (hK : lzK G s) (hP : va_P G.1 lzC ws H) (hD : va_D A ws) (hS0 : va_S A H0 H locs) (q0 : Nat) {fs : List Value} (he : ws[q0]? = some (a, .inr (ci, fs))) (hc : lzC[ci]? = some (C, T, N)) (k : Nat) (hk : k < N) (hlink : (Cond.fieldLink own index ref (T k).2.1 (T k).2.2.1).before args s = true) (href : ref = (T k).1) (hfin : (T k).2.2.2 = false) {x : Int32} (hd : parseFieldDescriptor (T k).2.2.1 = some .int) (hl : k < fs.length)
    (hdg : decode cc pc = .ok (.putfield index, 3)) (ws2 : va_W) (hw2 : ws.set q0 (a, .inr (ci, fs.set k (.int x))) = ws2) (kk : ∀ (H1 : Heap) (locs1 : List Loc), va_P G.1 lzC ws2 H1 → va_D A ws2 → va_S A H0 H1 locs1 → W p l e R s m args below meth c H1 locs1 cells slots Q (F0 m (pc + 3) ls rest)) : W p l e R s m args below meth c H locs cells slots Q (F0 m pc ls (.int x :: .ref a :: rest)) := by
  subst href
  subst hw2
  exact va_put hexec hb hts hin ty0 hty hnm hown hK.1 hP hD hS0 q0 he hc k hk hlink (fun _ h => h) hfin hd rfl rfl hl hdg kk
theorem lz_iald (hexec : p.tables.exec = Jvm.exec) (hb : c.code = cc) (hK : lzK G s) (hP : va_P G.1 lzC ws H) (q0 : Nat) {n : Nat} {f : Nat → Int32} (ha : ws[q0]? = some (a, .inl (G.2 0, n, .inl f))) (j : Nat) (hj : j < n) (hn : n < 2 ^ 31) (hdg : decode cc pc = .ok (.iaload, 1))
    (kk : W p l e R s m args below meth c H locs cells slots Q (F0 m (pc + 1) ls (.int (f j) :: rest))) : W p l e R s m args below meth c H locs cells slots Q (F0 m pc ls (.int (nI j) :: .ref a :: rest)) := by
  refine va_iald hexec hb hK.1 hP q0 0 ha rfl (vp_in_nI hj hn) hdg ?_
  rw [nI_clamp (by omega)]
  exact kk
theorem lz_iast (hexec : p.tables.exec = Jvm.exec) (hb : c.code = cc) (hK : lzK G s) (hP : va_P G.1 lzC ws H) (hD : va_D A ws) (hS : va_S A H0 H locs) (q0 : Nat) {n : Nat} {f : Nat → Int32} (ha : ws[q0]? = some (a, .inl (G.2 0, n, .inl f))) (j : Nat) (hj : j < n) (hn : n < 2 ^ 31) {x : Int32} (hdg : decode cc pc = .ok (.iastore, 1)) (ws2 : va_W) (hw2 : ws.set q0 (a, .inl (G.2 0, n, .inl (upd f j x))) = ws2)
    (kk : ∀ (H1 : Heap) (locs1 : List Loc), va_P G.1 lzC ws2 H1 → va_D A ws2 → va_S A H0 H1 locs1 → W p l e R s m args below meth c H1 locs1 cells slots Q (F0 m (pc + 1) ls rest)) : W p l e R s m args below meth c H locs cells slots Q (F0 m pc ls (.int x :: .int (nI j) :: .ref a :: rest)) := by
  subst hw2
  refine va_iast hexec hb hK.1 hP hD hS q0 0 ha rfl (vp_in_nI hj hn) hdg ?_
  rw [nI_clamp (by omega)]
  exact kk
end LZ
/-- distinct addresses stay distinct where only contents change -/
theorem va_D_fst {A : Nat → Prop} {ws ws' : va_W} (h : ws.map Prod.fst = ws'.map Prod.fst) (hD : va_D A ws) : va_D A ws' := by
  have at' : ∀ (k : Nat) (q : Nat × va_E), ws'[k]? = some q → ∃ p, ws[k]? = some p ∧ p.1 = q.1 := by
    intro k q hq
    have h1 : (ws'.map Prod.fst)[k]? = some q.1 := by rw [List.getElem?_map, hq]; rfl
    rw [← h, List.getElem?_map] at h1
    cases hp : ws[k]? with
    | none => rw [hp] at h1; cases h1
    | some p => rw [hp] at h1; exact ⟨p, rfl, Option.some.inj h1⟩
  refine ⟨fun i j p q hi hj hpq => ?_, fun k q hq => ?_⟩
  · obtain ⟨p', h1, h2⟩ := at' i p hi
    obtain ⟨q', h3, h4⟩ := at' j q hj
    exact hD.1 i j p' q' h1 h3 (by rw [h2, h4]; exact hpq)
  · obtain ⟨p', h1, h2⟩ := at' k q hq
    rw [← h2]
    exact hD.2 k p' h1
theorem lz_at {is : List Nat} {ws w : va_W} (hs : is.map (fun i => ws[i]?) = w.map some) (k : Nat) (q : Nat × va_E) (hq : w[k]? = some q) : ∃ i, is[k]? = some i ∧ ws[i]? = some q := by
  have h1 : (is.map (fun i => ws[i]?))[k]? = some (some q) := by rw [hs, List.getElem?_map, hq]; rfl
  rw [List.getElem?_map] at h1
  cases hi : is[k]? with
  | none => rw [hi] at h1; cases h1
  | some i => rw [hi] at h1; exact ⟨i, rfl, Option.some.inj h1⟩
/-- behind a call that makes nothing: the caller's other cells, and the callee's -/
theorem lz_join {A0 : Nat → Prop} {D : va_G} {cl : List vw_C} {ws wc wr w1 : va_W} {H H1 : Heap} (hP : va_P D cl ws H) (hD : va_D A0 ws) (isC isR : List Nat) (hC : isC.map (fun i => ws[i]?) = wc.map some) (hR : isR.map (fun i => ws[i]?) = wr.map some) (hn : va_nd (isR ++ isC) = true) (hdis : ∀ i ∈ isR, i ∉ isC)
    (hf : wc.map Prod.fst = w1.map Prod.fst) (hk : ∀ q : Nat, q < H.size → ¬ lzA wc q → H1[q]? = H[q]?) (hP1 : va_P D cl w1 H1) : va_P D cl (wr ++ w1) H1 ∧ va_D A0 (wr ++ w1) := by
  refine ⟨va_P.app (fun k q hq => ?_) hP1, ?_⟩
  · obtain ⟨i, h1, h2⟩ := lz_at hR k q hq
    have hl := (hP i q h2).lt
    refine (hP i q h2).kept (hk q.1 hl ?_)
    rintro ⟨k2, e, h⟩
    obtain ⟨j, h3, h4⟩ := lz_at hC k2 (q.1, e) h
    have hij := hD.1 i j q (q.1, e) h2 h4 rfl
    subst hij
    exact hdis i (List.mem_of_getElem? h1) (List.mem_of_getElem? h3)
  · refine va_D_fst (ws := wr ++ wc) (by rw [List.map_append, List.map_append, hf]) ?_
    exact hD.sub (isR ++ isC) hn (by rw [List.map_append, List.map_append, hC, hR])
theorem lz_free {A0 : Nat → Prop} {ws wc : va_W} (hD : va_D A0 ws) (isC : List Nat) (hC : isC.map (fun i => ws[i]?) = wc.map some) : ∀ q, lzA wc q → A0 q := by
  rintro q ⟨k, e, h⟩
  obtain ⟨i, h1, h2⟩ := lz_at hC k (q, e) h
  exact hD.2 i (q, e) h2
section LZ2
variable {l : Launch} {cc : ByteArray} {G : lzG}
theorem rw_start {S : Type} {y : MethodName} {ws ws' : List Cond} {rm : Room} {As : List Value} {wd : va_W} {Qc : Array Value → State → Outcome → State → Prop} {maxL : Nat} {ret : Option FieldType}
    (hy : plainName y.cls = true) (hw : ws = Cond.code y cc maxL ret :: ws') (hlen : (lg_sl As).length ≤ maxL)
    (body : ∀ (p : Program) (e : Env) (s : State) (m : MethodId) (below : List Frame) (meth : Method) (c : Code) (A : Nat → Prop), p.tables.exec = Jvm.exec → c.code = cc → meth.sig.returnType = ret → meth.locks = false → c.maxLocals = maxL → (∀ w ∈ ws, w.before As.toArray s = true) → s.vm.findClass y.cls = some m.cls → va_P G.1 lzC wd s.heap → lzK G s → va_D A wd → A = lzA wd → va_S A s.heap s.heap [] →
      ∀ ls : Array Slot, lv_has ls maxL (lv_args 0 As) → W p l e rm s m As.toArray below meth c s.heap [] 0 0 (MQ below Qc As.toArray s 0 0 A) (F0 m 0 ls [])) :
    Met l y ws rm (va_Pc As (rwP G wd)) Qc 0 0 (lzA wd) := by
  refine Met.ofW (cc := cc) (maxL := maxL) (ret := ret) hy hw ?_
  intro p e s m args below meth c s₁ B hml hv
  obtain ⟨rfl, hP, hK, hD⟩ := hv
  have hl := lv_entry As (n := maxL) hlen
  rw [lg_entry_eq]
  exact body p e s m below meth c (lzA wd) B.exec B.bytes B.returns B.notSynchronized hml (atoms_spec (ws := ws) B.pre) (findClass_of_methodNamed B.named) hP hK ⟨hD.1, fun k q h => ⟨k, q.2, h⟩⟩ rfl va_S.rf _ hl
end LZ2
section LZ3
variable {p : Program} {l : Launch} {e : Env} {R : Room} {s : State} {m : MethodId} {args : Array Value} {below : List Frame} {meth : Method} {c : Code} {H : Heap} {locs : List Loc} {cc : ByteArray} {pc : Nat} {ls : Array Slot} {G : lzG} {A : Nat → Prop} {S : Type}
theorem rw_iret {post : Int32 → S → Prop} {Wd : S → va_W} {v : Int32} (u : S) (hexec : p.tables.exec = Jvm.exec) (hb : c.code = cc) (hr : meth.sig.returnType = some .int) (hlocks : meth.locks = false) (hdg : decode cc pc = .ok (.ireturn, 1)) (hS : va_S A s.heap H locs) (hP : va_P G.1 lzC (Wd u) H) (hq : post v u) :
    W p l e R s m args below meth c H locs 0 0 (MQ below (va_Qi post (rwB G Wd) A) args s 0 0 A) (F0 m pc ls [.int v]) :=
  W.iret hexec hb hr (fun t ht _ => ⟨⟨v, u, rfl, hq, by unfold rwB; rw [ht]; exact hP⟩, hS.F ht⟩) hS.2.2 hdg hlocks
theorem rw_vret {post : S → Prop} {Wd : S → va_W} (u : S) (hexec : p.tables.exec = Jvm.exec) (hb : c.code = cc) (hr : meth.sig.returnType = none) (hlocks : meth.locks = false) (hdg : decode cc pc = .ok (.return_, 1)) (hS : va_S A s.heap H locs) (hP : va_P G.1 lzC (Wd u) H) (hq : post u) :
    W p l e R s m args below meth c H locs 0 0 (MQ below (va_Qv post (rwB G Wd) A) args s 0 0 A) (F0 m pc ls []) :=
  W.vret hexec hb hr (fun t ht _ => ⟨⟨u, rfl, hq, by unfold rwB; rw [ht]; exact hP⟩, hS.F ht⟩) hS.2.2 hdg hlocks
theorem rw_zret {post : Int32 → S → Prop} {Wd : S → va_W} {B : Bool} {v : Int32} (u : S) (hexec : p.tables.exec = Jvm.exec) (hb : c.code = cc) (hr : meth.sig.returnType = some .boolean) (hlocks : meth.locks = false) (hdg : decode cc pc = .ok (.ireturn, 1)) (hS : va_S A s.heap H locs) (hP : va_P G.1 lzC (Wd u) H) (hv : v = b2 B) (hq : post (b2 B) u) :
    W p l e R s m args below meth c H locs 0 0 (MQ below (va_Qi post (rwB G Wd) A) args s 0 0 A) (F0 m pc ls [.int v]) := by
  subst hv
  exact W.zret hexec hb hr (b2_nz B) (fun t ht _ => ⟨⟨_, u, rfl, hq, by unfold rwB; rw [ht]; exact hP⟩, hS.F ht⟩) hS.2.2 hdg hlocks
end LZ3
