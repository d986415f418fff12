/-! PURE: what a market answers, as whole numbers -/
abbrev T (f : Nat → Int32) (i : Nat) : Int := (f i).toInt
theorem rdI (f : Nat → Int32) (i : Nat) : f i = I (T f i) := (I_of (f i)).symm
theorem RT (f : Nat → Int32) (i : Nat) : R (T f i) := toInt_R (f i)
/-- units at prices up to p, of the levels k .. k + r - 1 -/
def uz (pr sz : Nat → Int) (p : Int) : Nat → Nat → Int
  | 0, _ => 0
  | r + 1, k => (if p < pr k then 0 else sz k) + uz pr sz p r (k + 1)
theorem ixI {n : Nat} (h : n < 2147483648) : ix (I (n : Int)) = n := by rw [I_ix (by omega) (by omega)]; rfl
theorem inI {n N : Nat} (h : n < N) (hN : N < 2147483648) : inb (I (n : Int)) N = true := I_inb (by omega) (by omega) hN
theorem Rn {n : Nat} (h : n < 2147483648) : R (n : Int) := by unfold R; omega
theorem uu3 {σ : Wd} {m v lev : Nat} {p : Int} (hv : v < 5) (hl : σ.1 (m + 6) v = I (lev : Int)) (hl6 : lev ≤ 6) (hp : R p) : ∀ (r k n : Nat) (acc : Int), r < n → k + r = lev →
    f_X3_unitsUpTo_12 m n (I (v : Int)) (I p) (I acc) (I ((6 * v : Nat) : Int)) (I ((6 * v + k : Nat) : Int)) σ = some (I (acc + uz (T (σ.1 (m + 8))) (T (σ.1 (m + 9))) p r (6 * v + k)), σ) := by
  intro r
  induction r with
  | zero =>
    intro k n acc hn hk
    obtain ⟨n, rfl⟩ : ∃ q, n = q + 1 := ⟨n - 1, by omega⟩
    rw [f_X3_unitsUpTo_12]
    have h1 : I ((6 * v : Nat) : Int) + I (lev : Int) ≤ I ((6 * v + k : Nat) : Int) := by
      rw [I_add, I_le (by unfold R; omega) (by unfold R; omega)]
      omega
    simp only [inI (show v < 5 from hv) (by decide), gd, ixI (show v < 2147483648 by omega), hl, if_pos h1, uz, Int.add_zero]
  | succ r ih =>
    intro k n acc hn hk
    obtain ⟨n, rfl⟩ : ∃ q, n = q + 1 := ⟨n - 1, by omega⟩
    rw [f_X3_unitsUpTo_12]
    have h1 : ¬ I ((6 * v : Nat) : Int) + I (lev : Int) ≤ I ((6 * v + k : Nat) : Int) := by
      rw [I_add, I_le (by unfold R; omega) (by unfold R; omega)]
      omega
    have h2 : I ((6 * v + k : Nat) : Int) + 1 = I ((6 * v + (k + 1) : Nat) : Int) := by
      rw [show (1 : Int32) = I 1 from rfl, I_add]
      congr 1 <;> omega
    have h3 : inb (I ((6 * v + k : Nat) : Int)) 30 = true := inI (by omega) (by decide)
    have h4 : ix (I ((6 * v + k : Nat) : Int)) = 6 * v + k := ixI (by omega)
    have h5 : (I p < σ.1 (m + 8) (6 * v + k)) ↔ p < T (σ.1 (m + 8)) (6 * v + k) := by
      rw [rdI (σ.1 (m + 8)) (6 * v + k), I_lt hp (RT _ _)]
    simp only [inI (show v < 5 from hv) (by decide), gd, ixI (show v < 2147483648 by omega), hl, if_neg h1, h3, h4, f_X3_unitsUpTo_47, h2, uz, h5]
    by_cases h6 : p < T (σ.1 (m + 8)) (6 * v + k)
    · rw [if_pos h6, if_pos h6, ih (k + 1) n acc (by omega) (by omega), Int.zero_add]
      rfl
    · rw [if_neg h6, if_neg h6, rdI (σ.1 (m + 9)) (6 * v + k), I_add, ih (k + 1) n _ (by omega) (by omega), Int.add_assoc]
      rfl
theorem uu3_ok {σ : Wd} {m v lev : Nat} {p : Int} (hv : v < 5) (hl : σ.1 (m + 6) v = I (lev : Int)) (hl6 : lev ≤ 6) (hp : R p) : f_X3_unitsUpTo m (I (v : Int)) (I p) σ = some (I (uz (T (σ.1 (m + 8))) (T (σ.1 (m + 9))) p lev (6 * v)), σ) := by
  unfold f_X3_unitsUpTo
  have h1 : I (v : Int) * 6 = I ((6 * v : Nat) : Int) := by
    rw [show (6 : Int32) = I 6 from rfl, I_mul]
    congr 1 <;> omega
  have h2 := uu3 (σ := σ) (m := m) (p := p) hv hl hl6 hp lev 0 FU 0 (by unfold FU; omega) (by omega)
  rw [h1]
  rw [Int.zero_add] at h2
  exact h2
/-! the reference -/
theorem mul5 (v j : Nat) : (5 : Int32) * I (v : Int) + I (j : Int) = I ((5 * v + j : Nat) : Int) := by
  rw [show (5 : Int32) = I 5 from rfl, I_mul, I_add]
  congr 1 <;> omega
theorem mul6 (v j : Nat) : (6 : Int32) * I (v : Int) + I (j : Int) = I ((6 * v + j : Nat) : Int) := by
  rw [show (6 : Int32) = I 6 from rfl, I_mul, I_add]
  congr 1 <;> omega
theorem mul60 (v j : Nat) : (0 : Int32) + (6 : Int32) * I (v : Int) + I (j : Int) = I ((6 * v + j : Nat) : Int) := by
  rw [show (0 : Int32) = I 0 from rfl, show (6 : Int32) = I 6 from rfl, I_mul, I_add, I_add]
  congr 1 <;> omega
theorem told7 {σ : Wd} {v : Nat} (j : Nat) (hv : v < 5) (hj : j < 5) : f_X7_told (I (v : Int)) (I (j : Int)) σ = some (σ.1 103 (5 * v + j), σ) := by
  unfold f_X7_told
  rw [mul5, inI (by omega) (by decide), ixI (by omega)]
  rfl
theorem price7 {σ : Wd} {v k : Nat} (hv : v < 5) (hk : k < 6) : f_X7_priceOf (I (v : Int)) (I (k : Int)) σ = some (σ.1 104 (6 * v + k), σ) := by
  unfold f_X7_priceOf
  rw [mul6, inI (by omega) (by decide), ixI (by omega)]
  rfl
theorem size7 {σ : Wd} {v k : Nat} (hv : v < 5) (hk : k < 6) : f_X7_sizeOf (I (v : Int)) (I (k : Int)) σ = some (σ.1 112 (6 * v + k), σ) := by
  unfold f_X7_sizeOf
  rw [mul60, inI (by omega) (by decide), ixI (by omega)]
  rfl
theorem levels7 {σ : Wd} {v : Nat} (hv : v < 5) : f_X7_levels (I (v : Int)) σ = some (σ.1 103 (5 * v + 4), σ) := by
  unfold f_X7_levels
  rw [show (4 : Int32) = I ((4 : Nat) : Int) from rfl, told7 4 hv (by decide)]
  rfl
theorem lot7 {σ : Wd} {v : Nat} (hv : v < 5) : f_X7_lot (I (v : Int)) σ = some (σ.1 103 (5 * v + 1), σ) := by
  unfold f_X7_lot
  rw [show (1 : Int32) = I ((1 : Nat) : Int) from rfl, told7 1 hv (by decide)]
  rfl
theorem bd_s {r : Int32} {σ : Wd} {f : Int32 → Wd → Option (Int32 × Wd)} : bd (some (r, σ)) f = f r σ := rfl
theorem I1 (k : Nat) : I (k : Int) + 1 = I ((k + 1 : Nat) : Int) := by
  rw [show (1 : Int32) = I 1 from rfl, I_add]
  congr 1
theorem uu7 {σ : Wd} {v lev : Nat} {p : Int} (hv : v < 5) (hl : σ.1 103 (5 * v + 4) = I (lev : Int)) (hl6 : lev ≤ 6) (hp : R p) : ∀ (r k n : Nat) (acc : Int), r < n → k + r = lev →
    f_X7_unitsTo_5 n (I (v : Int)) (I p) (I acc) (I (k : Int)) σ = some (I (acc + uz (T (σ.1 104)) (T (σ.1 112)) p r (6 * v + k)), σ) := by
  intro r
  induction r with
  | zero =>
    intro k n acc hn hk
    obtain ⟨n, rfl⟩ : ∃ q, n = q + 1 := ⟨n - 1, by omega⟩
    rw [f_X7_unitsTo_5]
    have h1 : I (lev : Int) ≤ I (k : Int) := by
      rw [I_le (by unfold R; omega) (by unfold R; omega)]
      omega
    simp only [levels7 hv, bd_s, hl, if_pos h1, uz, Int.add_zero]
  | succ r ih =>
    intro k n acc hn hk
    obtain ⟨n, rfl⟩ : ∃ q, n = q + 1 := ⟨n - 1, by omega⟩
    rw [f_X7_unitsTo_5]
    have h1 : ¬ I (lev : Int) ≤ I (k : Int) := by
      rw [I_le (by unfold R; omega) (by unfold R; omega)]
      omega
    have h5 : (I p < σ.1 104 (6 * v + k)) ↔ p < T (σ.1 104) (6 * v + k) := by
      rw [rdI (σ.1 104) (6 * v + k), I_lt hp (RT _ _)]
    simp only [levels7 hv, bd_s, hl, if_neg h1, price7 hv (show k < 6 by omega), size7 hv (show k < 6 by omega), f_X7_unitsTo_38, I1, uz, h5]
    by_cases h6 : p < T (σ.1 104) (6 * v + k)
    · rw [if_pos h6, if_pos h6, show I acc + 0 = I acc from by rw [show (0 : Int32) = I 0 from rfl, I_add, Int.add_zero], ih (k + 1) n acc (by omega) (by omega), Int.zero_add]
      rfl
    · rw [if_neg h6, if_neg h6, rdI (σ.1 112) (6 * v + k), I_add, ih (k + 1) n _ (by omega) (by omega), Int.add_assoc]
      rfl
theorem uu7_ok {σ : Wd} {v lev : Nat} {p : Int} (hv : v < 5) (hl : σ.1 103 (5 * v + 4) = I (lev : Int)) (hl6 : lev ≤ 6) (hp : R p) : f_X7_unitsTo (I (v : Int)) (I p) σ = some (I (uz (T (σ.1 104)) (T (σ.1 112)) p lev (6 * v)), σ) := by
  unfold f_X7_unitsTo
  have h2 := uu7 (σ := σ) (p := p) hv hl hl6 hp lev 0 FU 0 (by unfold FU; omega) (by omega)
  rw [Int.zero_add] at h2
  exact h2
