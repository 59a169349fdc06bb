theorem cp26 {g h k : Nat → Int32} {a b c : Int32} {n j : Nat} (e : k = va_cpy g h (Int32.toNatClampNeg a) (Int32.toNatClampNeg b) (Int32.toNatClampNeg c)) (ha : Int32.toNatClampNeg a = 0) (hb : Int32.toNatClampNeg b = 0) (hc : Int32.toNatClampNeg c = n) (hj : j < n) : k j = g j := by
  rw [e, ha, hb, hc, pk_cpy_in (Nat.zero_le _) (by omega)]
  congr 1
  omega
