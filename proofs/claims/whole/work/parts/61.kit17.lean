/-! the text constant of the kinds' letters: a String that nobody writes -/
def kcB (j : Nat) : Int32 := ([107, 101, 99, 117, 104] : List Int32).getD j 0
def lzStr (aK aV : Nat) (A : Nat → Prop) (U : State) (H : Heap) : Prop := va_O "java/lang/String" aK A U H ∧ va_OF "java/lang/String" "coder" "B" (.int 0) aK A U H ∧ va_OF "java/lang/String" "value" "[B" (.ref aV) aK A U H ∧ va_T .byte aV 5 (fun j => .int (kcB j)) A U H ∧ va_Z "java/lang/String" "COMPACT_STRINGS" "Z" (.int 1) A U H ∧ vk_R "LampSquares$Tape" 81 "kecuh" aK U
theorem lzStr.kept {aK aV : Nat} {A : Nat → Prop} {U : State} {H H1 : Heap} (h : lzStr aK aV A U H) (hq : ∀ a : Nat, a < H.size → ¬ A a → H1[a]? = H[a]?) : lzStr aK aV A U H1 :=
  ⟨h.1.kept hq, h.2.1.kept hq, h.2.2.1.kept hq, h.2.2.2.1.kept hq, h.2.2.2.2.1.kept hq, h.2.2.2.2.2⟩
theorem lzStr.narrow {aK aV : Nat} {A B : Nat → Prop} {U : State} {H : Heap} (h : lzStr aK aV A U H) (hAB : ∀ q, B q → A q) : lzStr aK aV B U H :=
  ⟨h.1.narrow hAB, h.2.1.narrow hAB, h.2.2.1.narrow hAB, h.2.2.2.1.narrow hAB, h.2.2.2.2.1.narrow hAB, h.2.2.2.2.2⟩
theorem lzStr.warm {aK aV : Nat} {A : Nat → Prop} {s U : State} {H : Heap} (hW : s.WarmedH U.vm) (h : lzStr aK aV A s H) : lzStr aK aV A U H :=
  ⟨va_O.moved hW.alike h.1, va_OF.moved hW.alike h.2.1, va_OF.moved hW.alike h.2.2.1, va_T.moved hW.alike h.2.2.2.1, va_Z.moved hW.alike h.2.2.2.2.1, vk_R.warm hW h.2.2.2.2.2⟩
theorem lzStr.calling {aK aV : Nat} {A : Nat → Prop} {U : State} {H : Heap} (g : JFrame) (mk : MethodId) (a : Array Value) (h : lzStr aK aV A U H) : lzStr aK aV A (U.calling g mk a) H :=
  ⟨va_O.moved (u := U) (U := U.calling g mk a) (Vm.Alike.refl U.vm) h.1, va_OF.moved (u := U) (U := U.calling g mk a) (Vm.Alike.refl U.vm) h.2.1, va_OF.moved (u := U) (U := U.calling g mk a) (Vm.Alike.refl U.vm) h.2.2.1, va_T.moved (u := U) (U := U.calling g mk a) (Vm.Alike.refl U.vm) h.2.2.2.1, va_Z.moved (u := U) (U := U.calling g mk a) (Vm.Alike.refl U.vm) h.2.2.2.2.1, vk_R.same (u := U) (U := U.calling g mk a) rfl h.2.2.2.2.2⟩
def rosP (G : lzG) (cells : va_W) (aK aV : Nat) : State → Prop := fun U => roP G cells U ∧ lzStr aK aV (fun _ => False) U U.heap
def rwsP (G : lzG) (ws : va_W) (aK aV : Nat) : State → Prop := fun U => rwP G ws U ∧ lzStr aK aV (lzA ws) U U.heap
section LZ17
variable {s : State} {H : Heap} {As : List Value} {G : lzG} {cells ws : va_W} {A : Nat → Prop} {aK aV b : Nat} {locs : List Loc}
theorem ros_pre (hK : lzK G s) (hP : va_P G.1 lzC cells H) (hSt : lzStr aK aV A s s.heap) (hS : va_S A s.heap H locs) : PreS s H (va_Pc As (rosP G cells aK aV)) As :=
  ⟨fun a U g mk q => ⟨q.1, ⟨q.2.1.1, q.2.1.2.calling g mk a⟩, q.2.2.calling g mk a⟩, fun U hU hW => ⟨rfl, ⟨by rw [hU]; exact hP, hK.warm hW⟩, by rw [hU]; exact ((hSt.kept hS.2.1).narrow (fun _ h => h.elim)).warm hW⟩⟩
theorem ros_preV (hK : lzK G s) (hP : va_P G.1 lzC cells H) (hSt : lzStr aK aV A s s.heap) (hS : va_S A s.heap H locs) {C : String} (hr : ∃ cell : Cell, H[b]? = some cell ∧ cell.vm.isStatics = false ∧ s.vm.findClass C = some cell.cls) : PreV s H C b (va_Pc (.ref b :: As) (rosP G cells aK aV)) As :=
  ⟨(ros_pre (As := .ref b :: As) hK hP hSt hS).1, hr, (ros_pre (As := .ref b :: As) hK hP hSt hS).2⟩
theorem rws_pre (hK : lzK G s) (hP : va_P G.1 lzC ws H) (hD : va_D A ws) (hSt : lzStr aK aV A s s.heap) (hS : va_S A s.heap H locs) (hF : ∀ q, lzA ws q → A q) : PreS s H (va_Pc As (rwsP G ws aK aV)) As :=
  ⟨fun a U g mk q => ⟨q.1, ⟨q.2.1.1, q.2.1.2.1.calling g mk a, q.2.1.2.2⟩, q.2.2.calling g mk a⟩, fun U hU hW => ⟨rfl, ⟨by rw [hU]; exact hP, hK.warm hW, hD.weaken (fun _ _ _ _ => trivial)⟩, by rw [hU]; exact ((hSt.kept hS.2.1).narrow hF).warm hW⟩⟩
theorem rws_preV (hK : lzK G s) (hP : va_P G.1 lzC ws H) (hD : va_D A ws) (hSt : lzStr aK aV A s s.heap) (hS : va_S A s.heap H locs) (hF : ∀ q, lzA ws q → A q) {C : String} (hr : ∃ cell : Cell, H[b]? = some cell ∧ cell.vm.isStatics = false ∧ s.vm.findClass C = some cell.cls) : PreV s H C b (va_Pc (.ref b :: As) (rwsP G ws aK aV)) As :=
  ⟨(rws_pre (As := .ref b :: As) hK hP hD hSt hS hF).1, hr, (rws_pre (As := .ref b :: As) hK hP hD hSt hS hF).2⟩
theorem str_recv (hSt : lzStr aK aV A s s.heap) (hS : va_S A s.heap H locs) : ∃ cell : Cell, H[aK]? = some cell ∧ cell.vm.isStatics = false ∧ s.vm.findClass "java/lang/String" = some cell.cls := by
  obtain ⟨cell, h1, h2, h3, -⟩ := (hSt.kept hS.2.1).1
  exact ⟨cell, h1, h2, h3⟩
end LZ17
section LZ18
variable {l : Launch} {cc : ByteArray} {G : lzG}
theorem ros_start {y : MethodName} {ws ws' : List Cond} {rm : Room} {As : List Value} {wd : va_W} {aK aV : Nat} {Qc : Array Value → State → Outcome → State → Prop} {maxL : Nat} {ret : Option FieldType}
    (hy : plainName y.cls = true) (hw : ws = Cond.code y cc maxL ret :: ws') (hlen : (lg_sl As).length ≤ maxL)
    (body : ∀ (p : Program) (e : Env) (s : State) (m : MethodId) (below : List Frame) (meth : Method) (c : Code), p.tables.exec = Jvm.exec → c.code = cc → meth.sig.returnType = ret → meth.locks = false → c.maxLocals = maxL → (∀ w ∈ ws, w.before As.toArray s = true) → s.vm.findClass y.cls = some m.cls → va_P G.1 lzC wd s.heap → lzK G s → lzStr aK aV (fun _ => False) s s.heap →
      ∀ ls : Array Slot, lv_has ls maxL (lv_args 0 As) → W p l e rm s m As.toArray below meth c s.heap [] 0 0 (MQ below Qc As.toArray s 0 0 (fun _ => False)) (F0 m 0 ls [])) :
    Met l y ws rm (va_Pc As (rosP G wd aK aV)) Qc 0 0 (fun _ => False) := by
  refine Met.ofW (cc := cc) (maxL := maxL) (ret := ret) hy hw ?_
  intro p e s m args below meth c s₁ B hml hv
  obtain ⟨rfl, ⟨hP, hK⟩, hSt⟩ := hv
  have hl := lv_entry As (n := maxL) hlen
  rw [lg_entry_eq]
  exact body p e s m below meth c B.exec B.bytes B.returns B.notSynchronized hml (atoms_spec (ws := ws) B.pre) (findClass_of_methodNamed B.named) hP hK hSt _ hl
theorem rws_start {S : Type} {y : MethodName} {ws ws' : List Cond} {rm : Room} {As : List Value} {wd : va_W} {aK aV : Nat} {Qc : Array Value → State → Outcome → State → Prop} {maxL : Nat} {ret : Option FieldType}
    (hy : plainName y.cls = true) (hw : ws = Cond.code y cc maxL ret :: ws') (hlen : (lg_sl As).length ≤ maxL)
    (body : ∀ (p : Program) (e : Env) (s : State) (m : MethodId) (below : List Frame) (meth : Method) (c : Code) (A : Nat → Prop), p.tables.exec = Jvm.exec → c.code = cc → meth.sig.returnType = ret → meth.locks = false → c.maxLocals = maxL → (∀ w ∈ ws, w.before As.toArray s = true) → s.vm.findClass y.cls = some m.cls → va_P G.1 lzC wd s.heap → lzK G s → va_D A wd → A = lzA wd → va_S A s.heap s.heap [] → lzStr aK aV A s s.heap →
      ∀ ls : Array Slot, lv_has ls maxL (lv_args 0 As) → W p l e rm s m As.toArray below meth c s.heap [] 0 0 (MQ below Qc As.toArray s 0 0 A) (F0 m 0 ls [])) :
    Met l y ws rm (va_Pc As (rwsP G wd aK aV)) Qc 0 0 (lzA wd) := by
  refine Met.ofW (cc := cc) (maxL := maxL) (ret := ret) hy hw ?_
  intro p e s m args below meth c s₁ B hml hv
  obtain ⟨rfl, ⟨hP, hK, hD⟩, hSt⟩ := hv
  have hl := lv_entry As (n := maxL) hlen
  rw [lg_entry_eq]
  exact body p e s m below meth c (lzA wd) B.exec B.bytes B.returns B.notSynchronized hml (atoms_spec (ws := ws) B.pre) (findClass_of_methodNamed B.named) hP hK ⟨hD.1, fun k q h => ⟨k, q.2, h⟩⟩ rfl va_S.rf hSt _ hl
end LZ18
section LZ19
variable {p : Program} {l : Launch} {e : Env} {R : Room} {s : State} {m : MethodId} {args : Array Value} {below : List Frame} {meth : Method} {c : Code} {cc : ByteArray} {pc : Nat} {ls : Array Slot}
theorem ro_bret {post : Int32 → Prop} {v : Int32} {ty : FieldType} (hexec : p.tables.exec = Jvm.exec) (hb : c.code = cc) (hr : meth.sig.returnType = some ty) (hlocks : meth.locks = false) (hn : narrow ty (.int v) = .int v) (hdg : decode cc pc = .ok (.ireturn, 1)) (hq : post v) :
    W p l e R s m args below meth c s.heap [] 0 0 (MQ below (vp_Si post) args s 0 0 (fun _ => False)) (F0 m pc ls [.int v]) :=
  W.zret hexec hb hr hn (fun t ht _ => ⟨v, rfl, hq, ht⟩) (fun q h => by cases h) hdg hlocks
end LZ19
/-- the place of a letter in the text, or -1 -/
def ixK (x : Int32) : Int32 := if kcB 0 = x then 0 else if kcB 1 = x then 1 else if kcB 2 = x then 2 else if kcB 3 = x then 3 else if kcB 4 = x then 4 else -1
theorem ixK_at {x : Int32} {k : Nat} (hk : k < 5) (h : kcB k = x) : nI k = ixK x := by
  subst h
  have h9 : ∀ k, k < 5 → nI k = ixK (kcB k) := by decide +kernel
  exact h9 k hk
theorem ixK_no {x : Int32} (h : ∀ j : Nat, j < 5 → ¬ kcB j = x) : -1 = ixK x := by
  unfold ixK
  rw [if_neg (h 0 (by decide)), if_neg (h 1 (by decide)), if_neg (h 2 (by decide)), if_neg (h 3 (by decide)), if_neg (h 4 (by decide))]
def khI (x : Int32) : Int32 := if kindB x = -1000000 then 0 else kindB x
theorem by_nat {x : Int32} (h : inR x 0 255 = true) : ∃ n : Nat, n < 256 ∧ x = nI n := by
  unfold inR at h
  simp only [Bool.and_eq_true, decide_eq_true_eq, fa_le] at h
  have h0 : (0 : Int32).toInt = 0 := by decide
  have h2 : (255 : Int32).toInt = 255 := by decide
  rw [h0, h2] at h
  refine ⟨x.toInt.toNat, by omega, ?_⟩
  apply Int32.toInt_inj.mp
  rw [nI_toInt (by omega)]
  omega
theorem by_char {x : Int32} (h : inR x 0 255 = true) : (x.toUInt32 % 65536).toInt32 = x := by
  obtain ⟨n, hn, rfl⟩ := by_nat h
  have h9 : ∀ n, n < 256 → ((nI n).toUInt32 % 65536).toInt32 = nI n := by decide +kernel
  exact h9 n hn
theorem by_kind {x : Int32} (h : inR x 0 255 = true) : ixK x.toInt8.toInt32 + 1 = khI x := by
  obtain ⟨n, hn, rfl⟩ := by_nat h
  have h9 : ∀ n, n < 256 → ixK (nI n).toInt8.toInt32 + 1 = khI (nI n) := by decide +kernel
  exact h9 n hn
theorem by_at {tb : Nat → Int32} {L p : Nat} (hby : ∀ k : Nat, k < L → inR (tb k) 0 255 = true) (h : ¬ byI tb L p = -1000000) : inR (byI tb L p) 0 255 = true := by
  unfold byI at h ⊢
  split
  · next hp => exact hby p hp
  · next hp => rw [if_neg hp] at h; exact absurd rfl h
