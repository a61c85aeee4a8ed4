section LZ10
variable {p : Program} {l : Launch} {e : Env} {R : Room} {s : State} {m : MethodId} {args : Array Value} {below : List Frame} {meth : Method} {c : Code} {H : Heap} {locs : List Loc} {cells slots : Nat} {Q : State → Prop}
variable {cc : ByteArray} {pc : Nat} {ls : Array Slot} {rest : List Value} {a : Nat} {ws : va_W} {H0 : Heap} {G : lzG} {A : Nat → Prop}
theorem lz_zast (hexec : p.tables.exec = Jvm.exec) (hb : c.code = cc) (hK : lzK G s) (hP : va_P G.1 lzC ws H) (hD : va_D A ws) (hS : va_S A H0 H locs) (q0 : Nat) {n : Nat} {f : Nat → Int32} (ha : ws[q0]? = some (a, .inl (G.2 2, n, .inl f))) (j : Nat) (hj : j < n) (hn : n < 2 ^ 31) {x : Int32} (hdg : decode cc pc = .ok (.bastore, 1)) (ws2 : va_W) (hw2 : ws.set q0 (a, .inl (G.2 2, n, .inl (upd f j x))) = ws2)
    (kk : ∀ (H1 : Heap) (locs1 : List Loc), va_P G.1 lzC ws2 H1 → va_D A ws2 → va_S A H0 H1 locs1 → W p l e R s m args below meth c H1 locs1 cells slots Q (F0 m (pc + 1) ls rest)) (hx1 : vp_nar .boolean x = x := by first | rfl | decide) : W p l e R s m args below meth c H locs cells slots Q (F0 m pc ls (.int x :: .int (nI j) :: .ref a :: rest)) := by
  subst hw2
  refine va_zast hexec hb hK.1 hP hD hS q0 2 ha rfl (vp_in_nI hj hn) hdg ?_
  rw [nI_clamp (by omega), hx1]
  exact kk
end LZ10
/-- a row of forty made empty, its first k -/
def rowZ (g : Nat → Int32) (b k : Nat) : Nat → Int32 := fun j => if 40 * b ≤ j ∧ j < 40 * b + k then 0 else g j
theorem rowZ_0 (g : Nat → Int32) (b : Nat) : rowZ g b 0 = g := by
  funext j
  have : ¬ (40 * b ≤ j ∧ j < 40 * b + 0) := by omega
  simp only [rowZ, if_neg this]
theorem rowZ_s (g : Nat → Int32) (b k : Nat) : upd (rowZ g b k) (40 * b + k) 0 = rowZ g b (k + 1) := by
  funext j
  by_cases q : j = 40 * b + k
  · subst q
    simp [upd, rowZ]
  · have e : (40 * b ≤ j ∧ j < 40 * b + (k + 1)) ↔ (40 * b ≤ j ∧ j < 40 * b + k) := by omega
    simp [upd, rowZ, q, e]
def countM (S f ln : Nat → Int32) (N : Nat) (what : Int32) : Int32 := if what = 0 then cntI (fun z => decide (0 ≤ ln z)) 8 else if what = 1 then f 2 else if what = 2 then f 3 else if what = 3 then f 1 else if what = 4 then bitsI (cntM f) N else if what = 5 then sumI (fun s => f (4 + 5 * s + 2) + f (4 + 5 * s + 3)) N else if what = 6 then S 9 else if what = 7 then S 11 else -1000001
