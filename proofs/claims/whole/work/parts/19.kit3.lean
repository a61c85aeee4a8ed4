/-! the trace: bodies one behind the other from T on -/
def trL (t : Nat → Int32) (T : Nat) : List Int32 → Nat → Int32
  | [] => t
  | b :: bs => trL (upd t T b) (T + 1) bs
def kmL (kind : Int32) : List Int32 := if kind = 3 then [22, 21, 20] else if kind = 2 then [24, 21, 20] else [21, 20]
def ksL (kind : Int32) : List Int32 := (if kind = 2 then [12, 11, 10] else [11, 10]) ++ kmL kind
def usL (kind : Int32) : List Int32 := if kind = 5 then [14, 13, 10] else [13, 10]
def umL (kind : Int32) : List Int32 := 23 :: 20 :: usL kind
def kmV (kind mark : Int32) : Int32 := if kind = 3 then mark - 1000 else if kind = 2 then 2 * mark else mark
def ksV (kind share mark : Int32) : Int32 := if kind = 2 then 0 - (share + mark) else share + mark
def usV (kind share : Int32) : Int32 := if kind = 5 then 2 * (share - 100) else share - 100
/-- the reference's mark and size, by the numbers themselves -/
def mmL (kind : Int32) : List Int32 := if 4 ≤ kind then 23 :: 20 :: usL kind else if kind = 1 then [21, 20] else if kind = 3 then [22, 21, 20] else [24, 21, 20]
def mmV (kind one share mark : Int32) : Int32 := if 4 ≤ kind then one - usV kind share else if kind = 1 then mark else if kind = 3 then mark - 1000 else 2 * mark
def msL (kind : Int32) : List Int32 := if 4 ≤ kind then usL kind else (if kind = 2 then [12, 11, 10] else [11, 10]) ++ mmL kind
def msV (kind one share mark : Int32) : Int32 := if 4 ≤ kind then usV kind share else if kind = 2 then -(share + mmV kind one share mark) else share + mmV kind one share mark
