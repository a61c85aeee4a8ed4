def squD (D : Nat → Int32) (F : Nat → Nat → Int32) (s : Nat) (what : Int32) : Int32 := if what = 0 then F 5 s else if what = 1 then (if D 0 ≤ F 5 s then 1 else 0) else if what = 2 then b2 (cntD F s) else if what = 3 then F 6 s else if what = 4 then F 7 s else if what = 5 then F 8 s else -1000001
def visQ (F : Nat → Nat → Int32) (v : Nat) (what : Int32) : Int32 := if what = 0 then F 9 v else if what = 1 then F 10 v else if what = 2 then F 11 v else if what = 3 then F 12 v else -1000001
def cmpI (a b : Int32) : Int32 := if a < b then -1 else if a = b then 0 else 1
