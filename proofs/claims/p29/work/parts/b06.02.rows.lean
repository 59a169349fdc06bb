def sgf (g : Nat → Int32) (x : Int32) : Int32 := if x.toInt < 97 ∨ 122 < x.toInt then 0 else g (Int32.toNatClampNeg (x - 97))
