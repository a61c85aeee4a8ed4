/-! the class's public methods, the rest -/
section LZ67
variable {p : Program} {l : Launch} {e : Env} {R : Room} {s : State} {m : MethodId} {args : Array Value} {below : List Frame} {meth : Method} {c : Code} {H : Heap} {locs : List Loc} {cells slots : Nat} {Q : State → Prop}
variable {cc : ByteArray} {pc : Nat} {ls : Array Slot} {rest : List Value} {a : Nat} {ws : va_W} {G : lzG}
/-- a row of ints out of a row of rows -/
theorem lz_aaldI (hexec : p.tables.exec = Jvm.exec) (hb : c.code = cc) (hK : lzK G s) (hP : va_P G.1 lzC ws H) (q0 : Nat) {n : Nat} {f : Nat → Option Nat} (ha : ws[q0]? = some (a, .inl (G.2 4, n, .inr (.inr (.inr (.inr f)))))) (j x : Nat) (hf : f j = some x) (hj : j < n) (hn : n < 2 ^ 31) (hdg : decode cc pc = .ok (.aaload, 1))
    (kk : W p l e R s m args below meth c H locs cells slots Q (F0 m (pc + 1) ls (.ref x :: rest))) : W p l e R s m args below meth c H locs cells slots Q (F0 m pc ls (.int (nI j) :: .ref a :: rest)) := by
  have e : (nI j).toNatClampNeg = j := nI_clamp (by omega)
  have hin : vp_in (nI j) n := vp_in_nI hj hn
  exact W.aald (v := .ref x) (ty := .array .int) hexec hb (hP q0 _ ha) ((hK.1.2 4 _ rfl).1 n (fun j => va_rf (f j))) rfl (fun q => by cases q) (by show ¬ (nI j < 0 ∨ (arrV _ _ _).slots.size ≤ _); rw [arrV_size]; exact hin) (by show (arrV _ _ _).slots[_]? = _; rw [e, arrV_read _ _ hj, hf]; rfl) rfl rfl hdg kk
end LZ67
/-- a door that was cleared -/
def clrF (F : Nat → Nat → Int32) : Nat → Nat → Int32 := lzF (lzF (lzF (lzF (lzF F 6 (fa_fill (fun _ => 0) (F 6) 8)) 7 (fa_fill (fun _ => 0) (F 7) 8)) 8 (fa_fill (fun _ => -1000000) (F 8) 8)) 11 (fa_fill (fun _ => 0) (F 11) 5)) 12 (fa_fill (fun _ => 0) (F 12) 5)
def countC (U V D ln : Nat → Int32) (F : Nat → Nat → Int32) (N : Nat) (what : Int32) : Int32 := if what = 0 then cntI (fun z => !decide (ln z = -1000000)) 8 else if what = 1 then D 2 else if what = 2 then D 3 else if what = 3 then D 1 else if what = 4 then bitsI (cntD F) N else if what = 5 then sumI (fun s => F 6 s + F 7 s) N else if what = 6 then V 2 else if what = 7 then U 1 else -1000001
def allCV (F : Nat → Nat → Int32) (g : Nat → Int32) (b M : Nat) (kind share : Int32) : Bool := allI (fun v => decide (g (b + v) = b2 (clkI kind share (F 9 v) (F 10 v)))) M
def allCS (F : Nat → Nat → Int32) (g : Nat → Int32) (b N : Nat) (care ear : Int32) : Bool := allI (fun z => decide (g (b + z) = b2 (clkI (F 4 z) (F 5 z) care ear))) N
def shrC (F : Nat → Nat → Int32) (g : Nat → Int32) (s b M : Nat) (k : Nat) : Int32 := bitsI (fun d => allCV F g b M (F 4 s) (nI d)) k
def kndC (F : Nat → Nat → Int32) (g : Nat → Int32) (s b M : Nat) (k : Nat) : Int32 := bitsI (fun d => !decide (d = 0) && allCV F g b M (nI d) (F 5 s)) k
def whoC (F : Nat → Nat → Int32) (g : Nat → Int32) (b N : Nat) (k : Nat) : Int32 := bitsI (fun v => allCS F g b N (F 9 v) (F 10 v)) k
def carC (F : Nat → Nat → Int32) (g : Nat → Int32) (b N : Nat) (ear : Int32) (k : Nat) : Int32 := bitsI (fun d => allCS F g b N (nI d) ear) k
theorem allI_s {p : Nat → Bool} {k : Nat} (h : allI p k = true) (hk : p k = true) : allI p (k + 1) = true := by
  show (allI p k && p k) = true
  rw [h, hk]
  rfl
