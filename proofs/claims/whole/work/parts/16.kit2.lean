section LZ4
variable {p : Program} {l : Launch} {e : Env} {R : Room} {s : State} {m : MethodId} {args : Array Value} {below : List Frame} {meth : Method} {c : Code} {H : Heap} {locs : List Loc} {cells slots : Nat} {Q : State → Prop}
variable {cc : ByteArray} {pc : Nat} {ls : Array Slot} {rest st0 : List Value} {a : Nat} {ws : va_W} {H0 : Heap} {G : lzG} {A : Nat → Prop}
theorem lz_alen (hexec : p.tables.exec = Jvm.exec) (hb : c.code = cc) (hK : lzK G s) (hP : va_P G.1 lzC ws H) (q0 : Nat) {n : Nat} {f : Nat → Int32} (ha : ws[q0]? = some (a, .inl (G.2 0, n, .inl f))) (hdg : decode cc pc = .ok (.arraylength, 1))
    (kk : W p l e R s m args below meth c H locs cells slots Q (F0 m (pc + 1) ls (.int (nI n) :: rest))) : W p l e R s m args below meth c H locs cells slots Q (F0 m pc ls (.ref a :: rest)) :=
  va_alen hexec hb hK.1 hP q0 0 ha (ty := .int) rfl rfl hdg kk
theorem lz_alenL (hexec : p.tables.exec = Jvm.exec) (hb : c.code = cc) (hK : lzK G s) (hP : va_P G.1 lzC ws H) (q0 : Nat) {n : Nat} {f : Nat → Int64} (ha : ws[q0]? = some (a, .inl (G.2 1, n, .inr (.inl f)))) (hdg : decode cc pc = .ok (.arraylength, 1))
    (kk : W p l e R s m args below meth c H locs cells slots Q (F0 m (pc + 1) ls (.int (nI n) :: rest))) : W p l e R s m args below meth c H locs cells slots Q (F0 m pc ls (.ref a :: rest)) :=
  va_alen hexec hb hK.1 hP q0 1 ha (ty := .long) rfl rfl hdg kk
theorem lz_lald (hexec : p.tables.exec = Jvm.exec) (hb : c.code = cc) (hK : lzK G s) (hP : va_P G.1 lzC ws H) (q0 : Nat) {n : Nat} {f : Nat → Int64} (ha : ws[q0]? = some (a, .inl (G.2 1, n, .inr (.inl f)))) (j : Nat) (hj : j < n) (hn : n < 2 ^ 31) (hdg : decode cc pc = .ok (.laload, 1))
    (kk : W p l e R s m args below meth c H locs cells slots Q (F0 m (pc + 1) ls (.long (f j) :: rest))) : W p l e R s m args below meth c H locs cells slots Q (F0 m pc ls (.int (nI j) :: .ref a :: rest)) := by
  refine va_lald hexec hb hK.1 hP q0 1 ha rfl (vp_in_nI hj hn) hdg ?_
  rw [nI_clamp (by omega)]
  exact kk
theorem lz_last (hexec : p.tables.exec = Jvm.exec) (hb : c.code = cc) (hK : lzK G s) (hP : va_P G.1 lzC ws H) (hD : va_D A ws) (hS : va_S A H0 H locs) (q0 : Nat) {n : Nat} {f : Nat → Int64} (ha : ws[q0]? = some (a, .inl (G.2 1, n, .inr (.inl f)))) (j : Nat) (hj : j < n) (hn : n < 2 ^ 31) {x : Int64} (hdg : decode cc pc = .ok (.lastore, 1)) (ws2 : va_W) (hw2 : ws.set q0 (a, .inl (G.2 1, n, .inr (.inl (vp_updL f j x)))) = ws2)
    (kk : ∀ (H1 : Heap) (locs1 : List Loc), va_P G.1 lzC ws2 H1 → va_D A ws2 → va_S A H0 H1 locs1 → W p l e R s m args below meth c H1 locs1 cells slots Q (F0 m (pc + 1) ls rest)) : W p l e R s m args below meth c H locs cells slots Q (F0 m pc ls (.long x :: .int (nI j) :: .ref a :: rest)) := by
  subst hw2
  refine va_last hexec hb hK.1 hP hD hS q0 1 ha rfl (vp_in_nI hj hn) hdg ?_
  rw [nI_clamp (by omega)]
  exact kk
theorem lz_zald (hexec : p.tables.exec = Jvm.exec) (hb : c.code = cc) (hK : lzK G s) (hP : va_P G.1 lzC ws H) (q0 : Nat) {n : Nat} {f : Nat → Int32} (ha : ws[q0]? = some (a, .inl (G.2 2, n, .inl f))) (j : Nat) (hj : j < n) (hn : n < 2 ^ 31) (hdg : decode cc pc = .ok (.baload, 1))
    (kk : W p l e R s m args below meth c H locs cells slots Q (F0 m (pc + 1) ls (.int (f j) :: rest))) : W p l e R s m args below meth c H locs cells slots Q (F0 m pc ls (.int (nI j) :: .ref a :: rest)) := by
  refine va_zald hexec hb hK.1 hP q0 2 ha rfl (vp_in_nI hj hn) hdg ?_
  rw [nI_clamp (by omega)]
  exact kk
/-- System.arraycopy of ints, at told places -/
theorem lz_copyi (hexec : p.tables.exec = Jvm.exec) (hb : c.code = cc) (hml : c.maxLocals = ls.size) {own : String} {index : Nat} (hown : s.vm.findClass own = some m.cls) (hlink : (Cond.methodLink own index arraycopyName).before args s = true) (hnat : (Cond.native arraycopyName).before args s = true) (hstat : (Cond.static arraycopyName).before args s = true) (hini : (Cond.initialized "java/lang/System").before args s = true)
    (hK : lzK G s) (hP : va_P G.1 lzC ws H) (hD : va_D A ws) (hS : va_S A H0 H locs) (q0 q1 : Nat) {a0 : Nat} {n0 n1 : Nat} {f g : Nat → Int32} (ha0 : ws[q0]? = some (a0, .inl (G.2 0, n0, .inl f))) (ha1 : ws[q1]? = some (a, .inl (G.2 0, n1, .inl g)))
    (sp dp n : Nat) (h4 : sp + n ≤ n0) (h5 : dp + n ≤ n1) (hn0 : n0 < 2 ^ 31) (hn1 : n1 < 2 ^ 31)
    (hframes : 1 ≤ R.frames) (hlocals : (rest.map fun v => v.category).sum + (nativeFrameWords "java/lang/System" "arraycopy" 5 + 11) ≤ R.locals) (hdg : decode cc pc = .ok (.invokestatic index, 3)) (ws2 : va_W) (hw2 : ws.set q1 (a, .inl (G.2 0, n1, .inl (va_cpy f g sp dp n))) = ws2)
    (kk : ∀ (H1 : Heap) (locs1 : List Loc), va_P G.1 lzC ws2 H1 → va_D A ws2 → va_S A H0 H1 locs1 → W p l e R s m args below meth c H1 locs1 cells slots Q (F0 m (pc + 3) ls rest)) : W p l e R s m args below meth c H locs cells slots Q (F0 m pc ls (.int (nI n) :: .int (nI dp) :: .ref a :: .int (nI sp) :: .ref a0 :: rest)) := by
  subst hw2
  have e1 : (nI sp).toNatClampNeg = sp := nI_clamp (by omega)
  have e2 : (nI dp).toNatClampNeg = dp := nI_clamp (by omega)
  have e3 : (nI n).toNatClampNeg = n := nI_clamp (by omega)
  refine va_copyi hexec hb hml hown hlink hnat hstat hini hK.1 hP hD hS q0 q1 0 0 ha0 ha1 (ty := .int) rfl rfl rfl (nI_pos (by omega)) (nI_pos (by omega)) (nI_pos (by omega)) (by rw [e1, e3]; exact h4) (by rw [e2, e3]; exact h5) (fun _ _ => rfl) hframes hlocals hdg ?_
  rw [e1, e2, e3]
  exact kk
end LZ4
/-! what writing methods leave -/
def capI (x : Int32) : Int32 := if 99 < x + 1 then 99 else x + 1
def votS (g : Nat → Int32) (p : Nat → Bool) (k : Nat) : Nat → Int32 := fun j => if j < k ∧ p j = true then capI (g j) else g j
theorem votS_0 (g : Nat → Int32) (p : Nat → Bool) : votS g p 0 = g := by
  funext j
  simp [votS]
theorem votS_k (g : Nat → Int32) (p : Nat → Bool) (k : Nat) : votS g p k k = g k := by simp [votS]
theorem votS_t {g : Nat → Int32} {p : Nat → Bool} {k : Nat} (h : p k = true) : upd (votS g p k) k (capI (votS g p k k)) = votS g p (k + 1) := by
  funext j
  by_cases q : j = k
  · subst q
    simp [upd, votS, h]
  · have e : j < k + 1 ↔ j < k := by omega
    simp [upd, votS, q, e]
theorem votS_f {g : Nat → Int32} {p : Nat → Bool} {k : Nat} (h : p k = false) : votS g p k = votS g p (k + 1) := by
  funext j
  by_cases q : j = k
  · subst q
    simp [votS, h]
  · have e : j < k + 1 ↔ j < k := by omega
    simp [votS, e]
theorem bitsI_cong {f g : Nat → Bool} : ∀ {n : Nat}, (∀ k, k < n → f k = g k) → bitsI f n = bitsI g n
  | 0, _ => rfl
  | n + 1, h => by rw [bitsI, bitsI, bitsI_cong (fun k hk => h k (by omega)), h n (by omega)]
def votF (F : Nat → Nat → Int32) (set clicked : Int32) (N : Nat) : Nat → Nat → Int32 := lzF (lzF F 6 (votS (F 6) (fun z => hasI set z && hasI clicked z) N)) 7 (votS (F 7) (fun z => hasI set z && !hasI clicked z) N)
/-- a visitor is asked: is he let in, and what the rows are then -/
def putB (S : Nat → Int32) (F : Nat → Nat → Int32) (v : Nat) (set : Int32) (N : Nat) : Bool := decide (bcI (wrbD S F v N &&& set) ≤ S 1)
def putF (S : Nat → Int32) (F : Nat → Nat → Int32) (v : Nat) (set : Int32) (N : Nat) : Nat → Nat → Int32 :=
  bif putB S F v set N then votF (lzF (lzF F 11 (upd (F 11) v (F 11 v + 1))) 12 (upd (F 12) v (F 12 v + 1))) (set &&& (bitsI (cntD F) N ^^^ (-1))) (bitsI (clkD F v) N) N
  else lzF F 11 (upd (F 11) v (F 11 v + 1))
def gstD (S : Nat → Int32) (F : Nat → Nat → Int32) (set : Int32) (N M : Nat) : Int32 := bitsI (fun v => decide (bcI (wrbD S F v N &&& set) ≤ S 1)) M
def fewD (S : Nat → Int32) (F : Nat → Nat → Int32) (within want : Int32) (N M : Nat) : Nat → Int32 × Int32
  | 0 => (-1000000, 9)
  | k + 1 => bif subB (nI k) within && decide (bcI (nI k) < (fewD S F within want N M k).2) && decide (gstD S F (nI k) N M = want) then (nI k, bcI (nI k)) else fewD S F within want N M k
theorem gstD_noted {S : Nat → Int32} {F : Nat → Nat → Int32} {set : Int32} {N M : Nat} (g : Nat → Int32) : bitsI (fun v => decide (bcI (lzF F 13 (fa_fill (fun v => wrbD S F v N) g M) 13 v &&& set) ≤ S 1)) M = gstD S F set N M := by
  refine bitsI_cong (fun k hk => ?_)
  show decide (bcI (fa_fill (fun v => wrbD S F v N) g M k &&& set) ≤ S 1) = _
  rw [fa_fill_in hk]
