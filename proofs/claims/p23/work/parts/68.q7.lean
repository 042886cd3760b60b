/-! THE CLASS: out of the rows of whole -/
def la (v : Nat → Int32) (f n : Nat) : Int32 := if n = 0 then nI 0 else v (f + (n - 1))
