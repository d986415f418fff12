/-! PURE: numbers. I z is the int of z; R z says that z is one -/
def I (z : Int) : Int32 := Int32.ofInt z
def R (z : Int) : Prop := -2147483648 ≤ z ∧ z < 2147483648
theorem I_toInt {z : Int} (h : R z) : (I z).toInt = z := by
  unfold I
  rw [Int32.toInt_ofInt]
  unfold R at h
  have hs : ((Int32.size : Nat) : Int) = 4294967296 := rfl
  rw [Int.bmod_eq_of_le] <;> omega
theorem toInt_R (x : Int32) : R x.toInt := ⟨Int32.le_toInt x, Int32.toInt_lt x⟩
theorem I_of (x : Int32) : I x.toInt = x := Int32.ofInt_toInt x
theorem I_add (a b : Int) : I a + I b = I (a + b) := (Int32.ofInt_add a b).symm
theorem I_sub (a b : Int) : I a - I b = I (a - b) := (Int32.ofInt_sub a b).symm
theorem I_mul (a b : Int) : I a * I b = I (a * b) := (Int32.ofInt_mul a b).symm
theorem I_neg (a : Int) : - I a = I (-a) := (Int32.ofInt_neg a).symm
theorem I_lt {a b : Int} (ha : R a) (hb : R b) : (I a < I b) ↔ a < b := by rw [Int32.lt_iff_toInt_lt, I_toInt ha, I_toInt hb]
theorem I_le {a b : Int} (ha : R a) (hb : R b) : (I a ≤ I b) ↔ a ≤ b := by rw [Int32.le_iff_toInt_le, I_toInt ha, I_toInt hb]
theorem I_eq {a b : Int} (ha : R a) (hb : R b) : (I a = I b) ↔ a = b := by
  refine ⟨fun h => ?_, fun h => by rw [h]⟩
  rw [← I_toInt ha, ← I_toInt hb, h]
theorem I_nat (n : Nat) : I (n : Int) = nI n := by
  unfold I nI
  exact Int32.ofInt_eq_ofNat
theorem I_ix {z : Int} (h : 0 ≤ z) (h2 : z < 2147483648) : ix (I z) = z.toNat := by
  obtain ⟨n, rfl⟩ := Int.eq_ofNat_of_zero_le h
  rw [I_nat]
  show (nI n).toNatClampNeg = _
  rw [nI_clamp (by omega)]
  rfl
theorem I_inb {z : Int} {n : Nat} (h : 0 ≤ z) (h2 : z < n) (hn : n < 2147483648) : inb (I z) n = true := by
  obtain ⟨m, rfl⟩ := Int.eq_ofNat_of_zero_le h
  rw [I_nat]
  exact inb_nI (by omega) (by omega)
