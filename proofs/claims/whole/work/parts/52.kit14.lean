/-! the reference's parser, its small words: 11 taped, 12 cursor, 13 start, 14 token, 15 value, 16 fault, 17 faultAt -/
def isLetM (S : Nat → Int32) (x : Int32) : Bool := decide (S 16 = 0) && decide (S 14 = 2) && decide (S 15 = x)
def isSrtM (S : Nat → Int32) : Bool := decide (S 16 = 0) && decide (S 14 = 2) && !decide (kindB (S 15) = -1000000)
section LZ14
variable {p : Program} {l : Launch} {e : Env} {R : Room} {s : State} {m : MethodId} {args : Array Value} {below : List Frame} {meth : Method} {c : Code} {H : Heap} {locs : List Loc} {cc : ByteArray} {pc : Nat} {ls : Array Slot} {G : lzG} {A : Nat → Prop} {S : Type}
theorem rw_lret {post : Int64 → S → Prop} {Wd : S → va_W} {v : Int64} (u : S) (hexec : p.tables.exec = Jvm.exec) (hb : c.code = cc) (hr : meth.sig.returnType = some .long) (hlocks : meth.locks = false) (hdg : decode cc pc = .ok (.lreturn, 1)) (hS : va_S A s.heap H locs) (hP : va_P G.1 lzC (Wd u) H) (hq : post v u) :
    W p l e R s m args below meth c H locs 0 0 (MQ below (va_Ql post (rwB G Wd) A) args s 0 0 A) (F0 m pc ls [.long v]) :=
  W.lret hexec hb hr (fun t ht _ => ⟨⟨v, u, rfl, hq, by unfold rwB; rw [ht]; exact hP⟩, hS.F ht⟩) hS.2.2 hdg hlocks
end LZ14
/-- of which sort a byte is that is no figure -/
def tokP (x : Int32) : Int32 := if inL x.toInt64 97 122 = true then 2 else if x = 44 then 4 else if x = 59 then 4 else 0
