def urel (kd : Nat → Nat) (jS jT kS kT : Nat) (f : Nat → va_E) (o : Nat) : Prop :=
  ∃ (s t : Nat) (u c : Int32), (kd o = 11 ∧ kd s = kS ∧ kd t = kT) ∧ (fldR (f o) jS = some s ∧ fldR (f o) jT = some t) ∧ (fldI (f s) 0 = some u ∧ fldI (f t) 12 = some c) ∧ 0 ≤ u.toInt ∧ u.toInt < (2 : Int) ^ c.toInt.toNat
theorem urel.keep {kd : Nat → Nat} {jS jT kS kT : Nat} {f f9 : Nat → va_E} {o : Nat} (h : urel kd jS jT kS kT f o) (e1 : ∀ b, kd b = 11 → fldR (f9 b) jS = fldR (f b) jS) (e2 : ∀ b, kd b = 11 → fldR (f9 b) jT = fldR (f b) jT) (e3 : ∀ b, kd b = kS → fldI (f9 b) 0 = fldI (f b) 0) (e4 : ∀ b, kd b = kT → fldI (f9 b) 12 = fldI (f b) 12) : urel kd jS jT kS kT f9 o := by
  obtain ⟨s, t, u, c, ⟨q1, q2, q3⟩, ⟨h1, h2⟩, ⟨h3, h4⟩, h5⟩ := h
  exact ⟨s, t, u, c, ⟨q1, q2, q3⟩, ⟨by rw [e1 o q1]; exact h1, by rw [e2 o q1]; exact h2⟩, ⟨by rw [e3 s q2]; exact h3, by rw [e4 t q3]; exact h4⟩, h5⟩
def alrel (kd : Nat → Nat) (f : Nat → va_E) (o : Nat) : Prop :=
  ∃ (r t : Nat), (kd o = 11 ∧ kd r = 3) ∧ fldR (f o) 2 = some r ∧ fldR (f o) 3 = some t ∧ fldR (f r) 0 = some t
theorem alrel.keep {kd : Nat → Nat} {f f9 : Nat → va_E} {o : Nat} (h : alrel kd f o) (e1 : ∀ b, kd b = 11 → fldR (f9 b) 2 = fldR (f b) 2) (e2 : ∀ b, kd b = 11 → fldR (f9 b) 3 = fldR (f b) 3) (e3 : ∀ b, kd b = 3 → fldR (f9 b) 0 = fldR (f b) 0) : alrel kd f9 o := by
  obtain ⟨r, t, ⟨q1, q2⟩, h1, h2, h3⟩ := h
  exact ⟨r, t, ⟨q1, q2⟩, by rw [e1 o q1]; exact h1, by rw [e2 o q1]; exact h2, by rw [e3 r q2]; exact h3⟩
theorem sh_pow {y : Int32} (h : 0 ≤ y.toInt ∧ y.toInt ≤ 8) : ((1 : Int32) <<< (y &&& 31)).toInt = (2 : Int) ^ y.toInt.toNat := by
  obtain ⟨a, ha, rfl⟩ := i8_of (n := 8) h
  rcases (show a = 0 ∨ a = 1 ∨ a = 2 ∨ a = 3 ∨ a = 4 ∨ a = 5 ∨ a = 6 ∨ a = 7 ∨ a = 8 by omega) with rfl | rfl | rfl | rfl | rfl | rfl | rfl | rfl | rfl <;> decide
theorem bit_all : ∀ u : Fin 256, ∀ k : Fin 8, ((nI u.val) >>> ((nI k.val) &&& 31)) &&& 1 = 1 → 2 ^ k.val ≤ u.val := by decide +kernel
theorem bit_lt {u k c z : Int32} (hu : 0 ≤ u.toInt ∧ u.toInt < (2 : Int) ^ c.toInt.toNat) (hc : 0 ≤ c.toInt ∧ c.toInt ≤ 8) (hk : 0 ≤ k.toInt ∧ k.toInt ≤ 7) {y : Int32} (ey : y = u >>> (k &&& 31)) (ez : z = y &&& 1) (h1 : z.toInt = 1) : k.toInt < c.toInt := by
  have h8 : (2 : Int) ^ c.toInt.toNat ≤ 2 ^ 8 := by
    have h9 : (2 : Nat) ^ c.toInt.toNat ≤ 2 ^ 8 := Nat.pow_le_pow_right (by omega) (by omega)
    exact_mod_cast h9
  have h256 : (2 : Int) ^ 8 = 256 := by decide
  obtain ⟨a, ha, rfl⟩ := i8_of (n := 255) (x := u) (by omega)
  obtain ⟨b, hb, rfl⟩ := i8_of (n := 7) hk
  have hz : z = 1 := Int32.toInt_inj.mp (by rw [h1]; rfl)
  have h5 := bit_all ⟨a, by omega⟩ ⟨b, by omega⟩ (by rw [← ey, ← ez]; exact hz)
  rw [nI_toInt (by omega)] at hu ⊢
  by_cases hlt : (b : Int) < c.toInt
  · exact hlt
  · exfalso
    have h6 : (2 : Nat) ^ c.toInt.toNat ≤ 2 ^ b := Nat.pow_le_pow_right (by omega) (by omega)
    have h7 : ((2 : Nat) ^ c.toInt.toNat : Nat) ≤ a := Nat.le_trans h6 h5
    have h10 : ((2 : Int) ^ c.toInt.toNat) ≤ (a : Int) := by exact_mod_cast h7
    omega
theorem ml_8r {x y : Int32} {m : Nat} (hm : m ≤ 100000000) (hx : 0 ≤ x.toInt ∧ x.toInt ≤ m) (hy : 0 ≤ y.toInt ∧ y.toInt ≤ 8) : 0 ≤ (x * y).toInt ∧ (x * y).toInt ≤ 8 * x.toInt := by
  obtain ⟨i, hi, rfl⟩ := i8_of (n := m) hx
  obtain ⟨j, hj, rfl⟩ := i8_of (n := 8) hy
  have h9 : i * j ≤ i * 8 := Nat.mul_le_mul_left i hj
  rw [pk_mul, nI_toInt (by omega), nI_toInt (by omega)]
  constructor <;> omega
theorem w2_0 {g : Nat → Int32} {a b : Int32} : upd (upd g (Int32.toNatClampNeg 0) a) (Int32.toNatClampNeg 1) b 0 = a := by
  rw [show Int32.toNatClampNeg 0 = 0 from rfl, show Int32.toNatClampNeg 1 = 1 from rfl, pk_un (by decide), pk_us]
theorem w2_1 {g : Nat → Int32} {a b : Int32} : upd (upd g (Int32.toNatClampNeg 0) a) (Int32.toNatClampNeg 1) b 1 = b := by
  rw [show Int32.toNatClampNeg 1 = 1 from rfl, pk_us]
