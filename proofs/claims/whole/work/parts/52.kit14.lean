/-! the reference's parser, its small words: 11 taped, 12 cursor, 13 start, 14 token, 15 value, 16 fault, 17 faultAt -/
def isLetM (S : Nat → Int32) (x : Int32) : Bool := decide (S 16 = 0) && decide (S 14 = 2) && decide (S 15 = x)
def isSrtM (S : Nat → Int32) : Bool := decide (S 16 = 0) && decide (S 14 = 2) && !decide (kindB (S 15) = -1000000)
