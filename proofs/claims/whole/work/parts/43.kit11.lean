/-! the reference's rows of clicks -/
def plcM (len i n : Int32) : Bool := decide (i < 0) || !decide (i.toInt64 + n.toInt64 ≤ len.toInt64)
def allV (f g : Nat → Int32) (b M : Nat) (kind share : Int32) : Bool := allI (fun v => decide (b2 (clkM kind share (f (44 + 4 * v)) (f (44 + 4 * v + 1))) = g (b + v))) M
def allS (f g : Nat → Int32) (b N : Nat) (care ear : Int32) : Bool := allI (fun z => decide (b2 (clkM (f (4 + 5 * z)) (f (4 + 5 * z + 1)) care ear) = g (b + z))) N
def shrM (f g : Nat → Int32) (s b M : Nat) (k : Nat) : Int32 := bitsI (fun d => allV f g b M (f (4 + 5 * s)) (nI d)) k
def kndM (f g : Nat → Int32) (s b M : Nat) (k : Nat) : Int32 := bitsI (fun d => !decide (d = 0) && allV f g b M (nI d) (f (4 + 5 * s + 1))) k
def whoM (f g : Nat → Int32) (b N : Nat) (k : Nat) : Int32 := bitsI (fun v => allS f g b N (f (44 + 4 * v)) (f (44 + 4 * v + 1))) k
def carM (f g : Nat → Int32) (b N : Nat) (ear : Int32) (k : Nat) : Int32 := bitsI (fun d => allS f g b N (nI d) ear) k
