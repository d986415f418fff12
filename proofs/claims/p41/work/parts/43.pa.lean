section
/-! PURE: reading a written world; feed of class and reference -/
theorem wi_eq {σ : Wd} {k j : Nat} {x : Int32} : (wi σ k j x).1 k j = x := by
  show (if k = k then upd (σ.1 k) j x else σ.1 k) j = x
  rw [if_pos rfl]
  exact if_pos rfl
theorem wi_ne {σ : Wd} {k j i : Nat} {x : Int32} (h : i ≠ j) : (wi σ k j x).1 k i = σ.1 k i := by
  show (if k = k then upd (σ.1 k) j x else σ.1 k) i = _
  rw [if_pos rfl]
  exact if_neg h
theorem wi_row {σ : Wd} {k j a : Nat} {x : Int32} (h : a ≠ k) : (wi σ k j x).1 a = σ.1 a := if_neg h
theorem wi_2 {σ : Wd} {k j : Nat} {x : Int32} : (wi σ k j x).2 = σ.2 := rfl
theorem inb_nI {l n : Nat} (h : l < n) (hn : n < 2 ^ 31) : inb (nI l) n = true := by
  unfold inb
  rw [Bool.and_eq_true]
  refine ⟨decide_eq_true (nI_pos' (by omega)), ?_⟩
  rw [show ix (nI l) = l from nI_clamp (by omega)]
  exact Nat.ble_eq_true_of_le h
theorem put_ok : ∀ (j n : Nat) (a : Int32) (σ : Wd) (l : Nat), j < n → j ≤ 4 → σ.1 1 0 = nI l → l + j ≤ 900 → ∃ σ', f_X5_put_3 n a (nI (8 * j) - 8) σ = some (0, σ') ∧ σ'.1 1 0 = nI (l + j) ∧ (∀ k, k ≠ 1 → k ≠ 2 → σ'.1 k = σ.1 k) ∧ σ'.2 = σ.2 ∧ ∀ i, i ≠ 0 → σ'.1 1 i = σ.1 1 i := by
  intro j
  induction j with
  | zero =>
    intro n a σ l hn _ hl _
    obtain ⟨n, rfl⟩ : ∃ m, n = m + 1 := ⟨n - 1, by omega⟩
    refine ⟨σ, ?_, hl, fun _ _ _ => rfl, rfl, fun _ _ => rfl⟩
    rw [f_X5_put_3]
    rfl
  | succ j ih =>
    intro n a σ l hn hj hl h9
    obtain ⟨n, rfl⟩ : ∃ m, n = m + 1 := ⟨n - 1, by omega⟩
    have h1 : ¬ nI (8 * (j + 1)) - 8 < 0 := by rcases (show j = 0 ∨ j = 1 ∨ j = 2 ∨ j = 3 by omega) with rfl | rfl | rfl | rfl <;> decide
    have h2 : nI (8 * (j + 1)) - 8 + (-8) = nI (8 * j) - 8 := by rcases (show j = 0 ∨ j = 1 ∨ j = 2 ∨ j = 3 by omega) with rfl | rfl | rfl | rfl <;> decide
    have h3 : ¬ (900 : Int32) ≤ nI l := nI_ge (a := l) (b := 900) (by omega) (by omega)
    have h4 : inb (nI l) 900 = true := inb_nI (by omega) (by omega)
    obtain ⟨σ', e1, e2, e3, e4, e5⟩ := ih n a (wi (wi σ 2 (ix (σ.1 1 0)) (vp_nar .byte ((a >>> ((nI (8 * (j + 1)) - 8) &&& 31)).toInt8.toInt32))) 1 0 ((wi σ 2 (ix (σ.1 1 0)) (vp_nar .byte ((a >>> ((nI (8 * (j + 1)) - 8) &&& 31)).toInt8.toInt32))).1 1 0 + 1)) (l + 1) (by omega) (by omega) (by rw [wi_eq, wi_row (by decide), hl]; exact nI_1 l) (by omega)
    refine ⟨σ', ?_, by rw [e2]; congr 1; omega, fun k h1 h2 => by rw [e3 k h1 h2, wi_row h1, wi_row h2], e4, fun i hi => by rw [e5 i hi, wi_ne hi, wi_row (by decide)]⟩
    rw [f_X5_put_3]
    simp only [if_neg h1, hl, if_neg h3, h4, gd, nmW, h2]
    rw [hl] at e1
    exact e1
theorem puts_ok (a : Int32) (σ : Wd) (l : Nat) (hl : σ.1 1 0 = nI l) (h : l + 4 ≤ 900) : ∃ σ', f_X5_put a σ = some (0, σ') ∧ σ'.1 1 0 = nI (l + 4) ∧ (∀ k, k ≠ 1 → k ≠ 2 → σ'.1 k = σ.1 k) ∧ σ'.2 = σ.2 ∧ ∀ i, i ≠ 0 → σ'.1 1 i = σ.1 1 i := by
  unfold f_X5_put
  exact put_ok 4 FU a σ l (by unfold FU; omega) (Nat.le_refl 4) hl h
/-- feed of the class, where there is room -/
theorem feed6 (a b c d e : Int32) (σ : Wd) (l : Nat) (hl : σ.1 1 0 = nI l) (h : l + 20 ≤ 900) : ∃ σ', f_X6_feed a b c d e σ = some (nI (l + 20), σ') ∧ σ'.1 1 0 = nI (l + 20) ∧ (∀ k, k ≠ 1 → k ≠ 2 → σ'.1 k = σ.1 k) ∧ σ'.2 = σ.2 ∧ ∀ i, i ≠ 0 → σ'.1 1 i = σ.1 1 i := by
  obtain ⟨σ1, a1, a2, a3, a4, a5⟩ := puts_ok a σ l hl (by omega)
  obtain ⟨σ2, b1, b2, b3, b4, b5⟩ := puts_ok b σ1 (l + 4) a2 (by omega)
  obtain ⟨σ3, c1, c2, c3, c4, c5⟩ := puts_ok c σ2 (l + 4 + 4) b2 (by omega)
  obtain ⟨σ4, d1, d2, d3, d4, d5⟩ := puts_ok d σ3 (l + 4 + 4 + 4) c2 (by omega)
  obtain ⟨σ5, e1, e2, e3, e4, e5⟩ := puts_ok e σ4 (l + 4 + 4 + 4 + 4) d2 (by omega)
  have e2 : σ5.1 1 0 = nI (l + 20) := e2
  refine ⟨σ5, ?_, e2, fun k h1 h2 => by rw [e3 k h1 h2, d3 k h1 h2, c3 k h1 h2, b3 k h1 h2, a3 k h1 h2], by rw [e4, d4, c4, b4, a4], fun i hi => by rw [e5 i hi, d5 i hi, c5 i hi, b5 i hi, a5 i hi]⟩
  unfold f_X6_feed
  rw [if_pos (by rw [hl]; exact nI_le (a := l) (b := 880) (by omega) (by omega)), a1]
  simp only [bd, b1, c1, d1, e1, e2]
theorem feed6_full (a b c d e : Int32) (σ : Wd) (l : Nat) (hl : σ.1 1 0 = nI l) (h : ¬ l + 20 ≤ 900) (h2 : l ≤ 900) : f_X6_feed a b c d e σ = some (-1, σ) := by
  unfold f_X6_feed
  rw [if_neg]
  rw [hl]
  exact nI_ge (a := 880) (b := l) (by omega) (by omega)
/-- the reference's loop -/
theorem feed7_loop : ∀ (j n : Nat) (a b c d e : Int32) (σ : Wd) (l : Nat), j < n → j ≤ 20 → σ.1 102 27 = nI l → l + j ≤ 900 → ∃ σ', f_X7_feed_23 n a b c d e (nI (20 - j)) σ = some (nI (l + j), σ') ∧ σ'.1 102 27 = nI (l + j) ∧ (∀ k, k ≠ 102 → k ≠ 115 → σ'.1 k = σ.1 k) ∧ σ'.2 = σ.2 ∧ ∀ i, i ≠ 27 → σ'.1 102 i = σ.1 102 i := by
  intro j
  induction j with
  | zero =>
    intro n a b c d e σ l hn _ hl _
    obtain ⟨n, rfl⟩ : ∃ m, n = m + 1 := ⟨n - 1, by omega⟩
    refine ⟨σ, ?_, hl, fun _ _ _ => rfl, rfl, fun _ _ => rfl⟩
    rw [f_X7_feed_23]
    show (if (20 : Int32) ≤ nI 20 then some (σ.1 102 27, σ) else _) = _
    rw [if_pos (by decide), hl]
    rfl
  | succ j ih =>
    intro n a b c d e σ l hn hj hl h9
    obtain ⟨n, rfl⟩ : ∃ m, n = m + 1 := ⟨n - 1, by omega⟩
    have h1 : ¬ (20 : Int32) ≤ nI (20 - (j + 1)) := nI_ge (a := 20 - (j + 1)) (b := 20) (by omega) (by omega)
    have h2 : nI (20 - (j + 1)) + 1 = nI (20 - j) := by rw [nI_1]; congr 1; omega
    have h4 : inb (nI l) 900 = true := inb_nI (by omega) (by omega)
    have key : ∀ s : Int32, ∃ σ', f_X7_feed_76 (f_X7_feed_23 n) a b c d e (nI (20 - (j + 1))) s σ = some (nI (l + (j + 1)), σ') ∧ σ'.1 102 27 = nI (l + (j + 1)) ∧ (∀ k, k ≠ 102 → k ≠ 115 → σ'.1 k = σ.1 k) ∧ σ'.2 = σ.2 ∧ ∀ i, i ≠ 27 → σ'.1 102 i = σ.1 102 i := by
      intro s
      obtain ⟨σ', e1, e2, e3, e4, e5⟩ := ih n a b c d e (wi (wi σ 115 (ix (nI l)) (vp_nar .byte ((s >>> (((24 : Int32) - ((8 : Int32) * (nI (20 - (j + 1)) % (4 : Int32)))) &&& 31)).toInt8.toInt32))) 102 27 (nI l + 1)) (l + 1) (by omega) (by omega) (by rw [wi_eq]; exact nI_1 l) (by omega)
      refine ⟨σ', ?_, by rw [e2]; congr 1; omega, fun k h1 h2 => by rw [e3 k h1 h2, wi_row h1, wi_row h2], e4, fun i hi => by rw [e5 i hi, wi_ne hi, wi_row (by decide)]⟩
      unfold f_X7_feed_76
      have h6 : (!decide ((4 : Int32) = 0)) = true := by decide
      have h7 : (wi σ 115 (ix (nI l)) (vp_nar .byte ((s >>> (((24 : Int32) - ((8 : Int32) * (nI (20 - (j + 1)) % (4 : Int32)))) &&& 31)).toInt8.toInt32))).1 102 27 = nI l := by rw [wi_row (by decide), hl]
      simp only [h6, hl, h4, gd, nmW, h7, h2]
      rw [e1, show l + 1 + j = l + (j + 1) by omega]
    rw [f_X7_feed_23]
    simp only [if_neg h1]
    split
    · split
      · split
        · split
          · exact key _
          · exact key _
        · exact key _
      · exact key _
    · exact key _
theorem feed7 (a b c d e : Int32) (σ : Wd) (l : Nat) (hl : σ.1 102 27 = nI l) (h : l + 20 ≤ 900) : ∃ σ', f_X7_feed a b c d e σ = some (nI (l + 20), σ') ∧ σ'.1 102 27 = nI (l + 20) ∧ (∀ k, k ≠ 102 → k ≠ 115 → σ'.1 k = σ.1 k) ∧ σ'.2 = σ.2 ∧ ∀ i, i ≠ 27 → i ≠ 0 → σ'.1 102 i = σ.1 102 i := by
  have h0 : (wi σ 102 0 0).1 102 27 = nI l := by rw [wi_ne (by decide), hl]
  obtain ⟨σ', e1, e2, e3, e4, e5⟩ := feed7_loop 20 FU a b c d e (wi σ 102 0 0) l (by unfold FU; omega) (Nat.le_refl 20) h0 h
  refine ⟨σ', ?_, e2, fun k h1 h2 => by rw [e3 k h1 h2, wi_row h1], e4, fun i hi h0 => by rw [e5 i hi, wi_ne h0]⟩
  unfold f_X7_feed
  simp only [nmW, h0]
  have h5 : nI l + 20 ≤ 900 := by
    rw [show (20 : Int32) = nI 20 from rfl, nI_add]
    exact nI_le (a := l + 20) (b := 900) h (by omega)
  rw [if_pos h5]
  exact e1
theorem feed7_full (a b c d e : Int32) (σ : Wd) (l : Nat) (hl : σ.1 102 27 = nI l) (h : ¬ l + 20 ≤ 900) (h2 : l ≤ 900) : f_X7_feed a b c d e σ = some (-1, wi σ 102 0 0) := by
  have h0 : (wi σ 102 0 0).1 102 27 = nI l := by rw [wi_ne (by decide), hl]
  unfold f_X7_feed
  simp only [nmW, h0]
  have h5 : ¬ nI l + 20 ≤ 900 := by
    rw [show (20 : Int32) = nI 20 from rfl, nI_add]
    exact nI_ge (a := 900) (b := l + 20) (by omega) (by omega)
  rw [if_neg h5]
end
section
/-! PURE: numbers. I z is the int of z; R z says that z is one -/
def I (z : Int) : Int32 := Int32.ofInt z
def R (z : Int) : Prop := -2147483648 ≤ z ∧ z < 2147483648
theorem I_toInt {z : Int} (h : R z) : (I z).toInt = z := by
  unfold I
  rw [Int32.toInt_ofInt]
  unfold R at h
  have hs : ((Int32.size : Nat) : Int) = 4294967296 := rfl
  rw [Int.bmod_eq_of_le] <;> omega
theorem toInt_R (x : Int32) : R x.toInt := ⟨Int32.le_toInt x, Int32.toInt_lt x⟩
theorem I_of (x : Int32) : I x.toInt = x := Int32.ofInt_toInt x
theorem I_add (a b : Int) : I a + I b = I (a + b) := (Int32.ofInt_add a b).symm
theorem I_sub (a b : Int) : I a - I b = I (a - b) := (Int32.ofInt_sub a b).symm
theorem I_mul (a b : Int) : I a * I b = I (a * b) := (Int32.ofInt_mul a b).symm
theorem I_neg (a : Int) : - I a = I (-a) := (Int32.ofInt_neg a).symm
theorem I_lt {a b : Int} (ha : R a) (hb : R b) : (I a < I b) ↔ a < b := by rw [Int32.lt_iff_toInt_lt, I_toInt ha, I_toInt hb]
theorem I_le {a b : Int} (ha : R a) (hb : R b) : (I a ≤ I b) ↔ a ≤ b := by rw [Int32.le_iff_toInt_le, I_toInt ha, I_toInt hb]
theorem I_eq {a b : Int} (ha : R a) (hb : R b) : (I a = I b) ↔ a = b := by
  refine ⟨fun h => ?_, fun h => by rw [h]⟩
  rw [← I_toInt ha, ← I_toInt hb, h]
theorem I_nat (n : Nat) : I (n : Int) = nI n := by
  unfold I nI
  exact Int32.ofInt_eq_ofNat
theorem I_ix {z : Int} (h : 0 ≤ z) (h2 : z < 2147483648) : ix (I z) = z.toNat := by
  obtain ⟨n, rfl⟩ := Int.eq_ofNat_of_zero_le h
  rw [I_nat]
  show (nI n).toNatClampNeg = _
  rw [nI_clamp (by omega)]
  rfl
theorem I_inb {z : Int} {n : Nat} (h : 0 ≤ z) (h2 : z < n) (hn : n < 2147483648) : inb (I z) n = true := by
  obtain ⟨m, rfl⟩ := Int.eq_ofNat_of_zero_le h
  rw [I_nat]
  exact inb_nI (by omega) (by omega)
end
section
/-! PURE: what a market answers, as whole numbers -/
abbrev T (f : Nat → Int32) (i : Nat) : Int := (f i).toInt
theorem rdI (f : Nat → Int32) (i : Nat) : f i = I (T f i) := (I_of (f i)).symm
theorem RT (f : Nat → Int32) (i : Nat) : R (T f i) := toInt_R (f i)
/-- units at prices up to p, of the levels k .. k + r - 1 -/
def uz (pr sz : Nat → Int) (p : Int) : Nat → Nat → Int
  | 0, _ => 0
  | r + 1, k => (if p < pr k then 0 else sz k) + uz pr sz p r (k + 1)
theorem ixI {n : Nat} (h : n < 2147483648) : ix (I (n : Int)) = n := by rw [I_ix (by omega) (by omega)]; rfl
theorem inI {n N : Nat} (h : n < N) (hN : N < 2147483648) : inb (I (n : Int)) N = true := I_inb (by omega) (by omega) hN
theorem Rn {n : Nat} (h : n < 2147483648) : R (n : Int) := by unfold R; omega
theorem uu3 {σ : Wd} {m v lev : Nat} {p : Int} (hv : v < 5) (hl : σ.1 (m + 6) v = I (lev : Int)) (hl6 : lev ≤ 6) (hp : R p) : ∀ (r k n : Nat) (acc : Int), r < n → k + r = lev →
    f_X3_unitsUpTo_12 m n (I (v : Int)) (I p) (I acc) (I ((6 * v : Nat) : Int)) (I ((6 * v + k : Nat) : Int)) σ = some (I (acc + uz (T (σ.1 (m + 8))) (T (σ.1 (m + 9))) p r (6 * v + k)), σ) := by
  intro r
  induction r with
  | zero =>
    intro k n acc hn hk
    obtain ⟨n, rfl⟩ : ∃ q, n = q + 1 := ⟨n - 1, by omega⟩
    rw [f_X3_unitsUpTo_12]
    have h1 : I ((6 * v : Nat) : Int) + I (lev : Int) ≤ I ((6 * v + k : Nat) : Int) := by
      rw [I_add, I_le (by unfold R; omega) (by unfold R; omega)]
      omega
    simp only [inI (show v < 5 from hv) (by decide), gd, ixI (show v < 2147483648 by omega), hl, if_pos h1, uz, Int.add_zero]
  | succ r ih =>
    intro k n acc hn hk
    obtain ⟨n, rfl⟩ : ∃ q, n = q + 1 := ⟨n - 1, by omega⟩
    rw [f_X3_unitsUpTo_12]
    have h1 : ¬ I ((6 * v : Nat) : Int) + I (lev : Int) ≤ I ((6 * v + k : Nat) : Int) := by
      rw [I_add, I_le (by unfold R; omega) (by unfold R; omega)]
      omega
    have h2 : I ((6 * v + k : Nat) : Int) + 1 = I ((6 * v + (k + 1) : Nat) : Int) := by
      rw [show (1 : Int32) = I 1 from rfl, I_add]
      congr 1 <;> omega
    have h3 : inb (I ((6 * v + k : Nat) : Int)) 30 = true := inI (by omega) (by decide)
    have h4 : ix (I ((6 * v + k : Nat) : Int)) = 6 * v + k := ixI (by omega)
    have h5 : (I p < σ.1 (m + 8) (6 * v + k)) ↔ p < T (σ.1 (m + 8)) (6 * v + k) := by
      rw [rdI (σ.1 (m + 8)) (6 * v + k), I_lt hp (RT _ _)]
    simp only [inI (show v < 5 from hv) (by decide), gd, ixI (show v < 2147483648 by omega), hl, if_neg h1, h3, h4, f_X3_unitsUpTo_47, h2, uz, h5]
    by_cases h6 : p < T (σ.1 (m + 8)) (6 * v + k)
    · rw [if_pos h6, if_pos h6, ih (k + 1) n acc (by omega) (by omega), Int.zero_add]
      rfl
    · rw [if_neg h6, if_neg h6, rdI (σ.1 (m + 9)) (6 * v + k), I_add, ih (k + 1) n _ (by omega) (by omega), Int.add_assoc]
      rfl
theorem uu3_ok {σ : Wd} {m v lev : Nat} {p : Int} (hv : v < 5) (hl : σ.1 (m + 6) v = I (lev : Int)) (hl6 : lev ≤ 6) (hp : R p) : f_X3_unitsUpTo m (I (v : Int)) (I p) σ = some (I (uz (T (σ.1 (m + 8))) (T (σ.1 (m + 9))) p lev (6 * v)), σ) := by
  unfold f_X3_unitsUpTo
  have h1 : I (v : Int) * 6 = I ((6 * v : Nat) : Int) := by
    rw [show (6 : Int32) = I 6 from rfl, I_mul]
    congr 1 <;> omega
  have h2 := uu3 (σ := σ) (m := m) (p := p) hv hl hl6 hp lev 0 FU 0 (by unfold FU; omega) (by omega)
  rw [h1]
  rw [Int.zero_add] at h2
  exact h2
/-! the reference -/
theorem mul5 (v j : Nat) : (5 : Int32) * I (v : Int) + I (j : Int) = I ((5 * v + j : Nat) : Int) := by
  rw [show (5 : Int32) = I 5 from rfl, I_mul, I_add]
  congr 1 <;> omega
theorem mul6 (v j : Nat) : (6 : Int32) * I (v : Int) + I (j : Int) = I ((6 * v + j : Nat) : Int) := by
  rw [show (6 : Int32) = I 6 from rfl, I_mul, I_add]
  congr 1 <;> omega
theorem mul60 (v j : Nat) : (0 : Int32) + (6 : Int32) * I (v : Int) + I (j : Int) = I ((6 * v + j : Nat) : Int) := by
  rw [show (0 : Int32) = I 0 from rfl, show (6 : Int32) = I 6 from rfl, I_mul, I_add, I_add]
  congr 1 <;> omega
theorem told7 {σ : Wd} {v : Nat} (j : Nat) (hv : v < 5) (hj : j < 5) : f_X7_told (I (v : Int)) (I (j : Int)) σ = some (σ.1 103 (5 * v + j), σ) := by
  unfold f_X7_told
  rw [mul5, inI (by omega) (by decide), ixI (by omega)]
  rfl
theorem price7 {σ : Wd} {v k : Nat} (hv : v < 5) (hk : k < 6) : f_X7_priceOf (I (v : Int)) (I (k : Int)) σ = some (σ.1 104 (6 * v + k), σ) := by
  unfold f_X7_priceOf
  rw [mul6, inI (by omega) (by decide), ixI (by omega)]
  rfl
theorem size7 {σ : Wd} {v k : Nat} (hv : v < 5) (hk : k < 6) : f_X7_sizeOf (I (v : Int)) (I (k : Int)) σ = some (σ.1 112 (6 * v + k), σ) := by
  unfold f_X7_sizeOf
  rw [mul60, inI (by omega) (by decide), ixI (by omega)]
  rfl
theorem levels7 {σ : Wd} {v : Nat} (hv : v < 5) : f_X7_levels (I (v : Int)) σ = some (σ.1 103 (5 * v + 4), σ) := by
  unfold f_X7_levels
  rw [show (4 : Int32) = I ((4 : Nat) : Int) from rfl, told7 4 hv (by decide)]
  rfl
theorem lot7 {σ : Wd} {v : Nat} (hv : v < 5) : f_X7_lot (I (v : Int)) σ = some (σ.1 103 (5 * v + 1), σ) := by
  unfold f_X7_lot
  rw [show (1 : Int32) = I ((1 : Nat) : Int) from rfl, told7 1 hv (by decide)]
  rfl
theorem bd_s {r : Int32} {σ : Wd} {f : Int32 → Wd → Option (Int32 × Wd)} : bd (some (r, σ)) f = f r σ := rfl
theorem I1 (k : Nat) : I (k : Int) + 1 = I ((k + 1 : Nat) : Int) := by
  rw [show (1 : Int32) = I 1 from rfl, I_add]
  congr 1
theorem uu7 {σ : Wd} {v lev : Nat} {p : Int} (hv : v < 5) (hl : σ.1 103 (5 * v + 4) = I (lev : Int)) (hl6 : lev ≤ 6) (hp : R p) : ∀ (r k n : Nat) (acc : Int), r < n → k + r = lev →
    f_X7_unitsTo_5 n (I (v : Int)) (I p) (I acc) (I (k : Int)) σ = some (I (acc + uz (T (σ.1 104)) (T (σ.1 112)) p r (6 * v + k)), σ) := by
  intro r
  induction r with
  | zero =>
    intro k n acc hn hk
    obtain ⟨n, rfl⟩ : ∃ q, n = q + 1 := ⟨n - 1, by omega⟩
    rw [f_X7_unitsTo_5]
    have h1 : I (lev : Int) ≤ I (k : Int) := by
      rw [I_le (by unfold R; omega) (by unfold R; omega)]
      omega
    simp only [levels7 hv, bd_s, hl, if_pos h1, uz, Int.add_zero]
  | succ r ih =>
    intro k n acc hn hk
    obtain ⟨n, rfl⟩ : ∃ q, n = q + 1 := ⟨n - 1, by omega⟩
    rw [f_X7_unitsTo_5]
    have h1 : ¬ I (lev : Int) ≤ I (k : Int) := by
      rw [I_le (by unfold R; omega) (by unfold R; omega)]
      omega
    have h5 : (I p < σ.1 104 (6 * v + k)) ↔ p < T (σ.1 104) (6 * v + k) := by
      rw [rdI (σ.1 104) (6 * v + k), I_lt hp (RT _ _)]
    simp only [levels7 hv, bd_s, hl, if_neg h1, price7 hv (show k < 6 by omega), size7 hv (show k < 6 by omega), f_X7_unitsTo_38, I1, uz, h5]
    by_cases h6 : p < T (σ.1 104) (6 * v + k)
    · rw [if_pos h6, if_pos h6, show I acc + 0 = I acc from by rw [show (0 : Int32) = I 0 from rfl, I_add, Int.add_zero], ih (k + 1) n acc (by omega) (by omega), Int.zero_add]
      rfl
    · rw [if_neg h6, if_neg h6, rdI (σ.1 112) (6 * v + k), I_add, ih (k + 1) n _ (by omega) (by omega), Int.add_assoc]
      rfl
theorem uu7_ok {σ : Wd} {v lev : Nat} {p : Int} (hv : v < 5) (hl : σ.1 103 (5 * v + 4) = I (lev : Int)) (hl6 : lev ≤ 6) (hp : R p) : f_X7_unitsTo (I (v : Int)) (I p) σ = some (I (uz (T (σ.1 104)) (T (σ.1 112)) p lev (6 * v)), σ) := by
  unfold f_X7_unitsTo
  have h2 := uu7 (σ := σ) (p := p) hv hl hl6 hp lev 0 FU 0 (by unfold FU; omega) (by omega)
  rw [Int.zero_add] at h2
  exact h2
end
section
/-! PURE: charge, cost, cap -/
def chg (kind fee least n : Int) : Int :=
  if n ≤ 0 then 0 else if kind = 2 then least else
    if 0 ≤ fee ∧ (if kind = 1 ∧ 20 < n then fee * 20 + fee / 2 * (n - 20) else fee * n) < least then least else (if kind = 1 ∧ 20 < n then fee * 20 + fee / 2 * (n - 20) else fee * n)
theorem half_shr {z : Int} (h1 : -9 ≤ z) (h2 : z ≤ 9) : I z >>> ((1 : Int32) &&& 31) = I (z / 2) := by
  have h : z = -9 ∨ z = -8 ∨ z = -7 ∨ z = -6 ∨ z = -5 ∨ z = -4 ∨ z = -3 ∨ z = -2 ∨ z = -1 ∨ z = 0 ∨ z = 1 ∨ z = 2 ∨ z = 3 ∨ z = 4 ∨ z = 5 ∨ z = 6 ∨ z = 7 ∨ z = 8 ∨ z = 9 := by omega
  rcases h with h | h | h | h | h | h | h | h | h | h | h | h | h | h | h | h | h | h | h <;> subst h <;> decide
theorem half_low {z : Int} {σ : Wd} (h1 : -9 ≤ z) (h2 : z ≤ 9) : f_X7_lower (I z) 2 σ = some (I (z / 2), σ) := by
  have h : z = -9 ∨ z = -8 ∨ z = -7 ∨ z = -6 ∨ z = -5 ∨ z = -4 ∨ z = -3 ∨ z = -2 ∨ z = -1 ∨ z = 0 ∨ z = 1 ∨ z = 2 ∨ z = 3 ∨ z = 4 ∨ z = 5 ∨ z = 6 ∨ z = 7 ∨ z = 8 ∨ z = 9 := by omega
  rcases h with h | h | h | h | h | h | h | h | h | h | h | h | h | h | h | h | h | h | h <;> subst h <;> rfl
theorem fee_cases {z : Int} (h1 : -9 ≤ z) (h2 : z ≤ 9) : z = -9 ∨ z = -8 ∨ z = -7 ∨ z = -6 ∨ z = -5 ∨ z = -4 ∨ z = -3 ∨ z = -2 ∨ z = -1 ∨ z = 0 ∨ z = 1 ∨ z = 2 ∨ z = 3 ∨ z = 4 ∨ z = 5 ∨ z = 6 ∨ z = 7 ∨ z = 8 ∨ z = 9 := by omega
theorem fee_mul {z n : Int} (h1 : -9 ≤ z) (h2 : z ≤ 9) (n1 : -1000 ≤ n) (n2 : n ≤ 1000) : -9000 ≤ z * n ∧ z * n ≤ 9000 := by
  rcases fee_cases h1 h2 with h | h | h | h | h | h | h | h | h | h | h | h | h | h | h | h | h | h | h <;> subst h <;> omega
theorem chg3 {σ : Wd} {m v : Nat} {n kind fee least : Int} (hv : v < 5) (hk : σ.1 (m + 1) v = I kind) (hf : σ.1 (m + 3) v = I fee) (hl : σ.1 (m + 4) v = I least) (k0 : 0 ≤ kind) (k2 : kind ≤ 2) (f1 : -9 ≤ fee) (f2 : fee ≤ 9) (l1 : 0 ≤ least) (l2 : least ≤ 300) (n1 : -1000 ≤ n) (n2 : n ≤ 1000) :
    f_X3_chargeOf m (I (v : Int)) (I n) σ = some (I (chg kind fee least n), σ) := by
  have e0 : (0 : Int32) = I 0 := rfl
  have e1 : (1 : Int32) = I 1 := rfl
  have e2 : (2 : Int32) = I 2 := rfl
  have e20 : (20 : Int32) = I 20 := rfl
  have hi : inb (I (v : Int)) 5 = true := inI hv (by decide)
  have hx : ix (I (v : Int)) = v := ixI (by omega)
  have b1 : (I 0 < I n) ↔ 0 < n := I_lt (by unfold R; omega) (by unfold R; omega)
  have b2 : (I kind = I 2) ↔ kind = 2 := I_eq (by unfold R; omega) (by unfold R; omega)
  have b3 : (I kind = I 1) ↔ kind = 1 := I_eq (by unfold R; omega) (by unfold R; omega)
  have b4 : (I n ≤ I 20) ↔ n ≤ 20 := I_le (by unfold R; omega) (by unfold R; omega)
  have b5 : (I fee < I 0) ↔ fee < 0 := I_lt (by unfold R; omega) (by unfold R; omega)
  have hs : I fee >>> (I 1 &&& 31) = I (fee / 2) := half_shr f1 f2
  have c72 : ∀ s : Int, -100000 ≤ s → s ≤ 100000 → f_X3_chargeOf_72 m (I (v : Int)) (I s) σ = some (I (if 0 ≤ fee ∧ s < least then least else s), σ) := by
    intro s s1 s2
    have b6 : (I least ≤ I s) ↔ least ≤ s := I_le (by unfold R; omega) (by unfold R; omega)
    unfold f_X3_chargeOf_72 f_X3_chargeOf_100 f_X3_chargeOf_101
    simp only [hi, hx, gd, hf, hl, e0, b5, b6]
    by_cases c1 : fee < 0
    · rw [if_pos c1, if_neg (by omega)]
    · rw [if_neg c1]
      by_cases c2 : least ≤ s
      · rw [if_pos c2, if_neg (by omega)]
      · rw [if_neg c2, if_pos (by omega)]
  have g1 := fee_mul f1 f2 n1 n2
  unfold f_X3_chargeOf chg
  simp only [hi, hx, gd, hk, hf, hl, e0, e1, e2, e20, b1, b2, b3, b4, hs, I_mul, I_sub, I_add]
  by_cases c1 : 0 < n
  · have c1' : ¬ n ≤ 0 := by omega
    rw [if_pos c1, if_neg c1']
    by_cases c2 : kind = 2
    · rw [if_pos c2, if_pos c2]
    · rw [if_neg c2, if_neg c2]
      by_cases c3 : kind = 1
      · rw [if_pos c3]
        by_cases c4 : n ≤ 20
        · have c5 : ¬ (kind = 1 ∧ 20 < n) := by omega
          rw [if_pos c4, c72 _ (by omega) (by omega), if_neg c5]
        · have c5 : kind = 1 ∧ 20 < n := by omega
          have g2 : -9000 ≤ fee / 2 * (n - 20) ∧ fee / 2 * (n - 20) ≤ 9000 := fee_mul (by omega) (by omega) (by omega) (by omega)
          rw [if_neg c4, c72 _ (by omega) (by omega), if_pos c5]
      · have c5 : ¬ (kind = 1 ∧ 20 < n) := by omega
        rw [if_neg c3, c72 _ (by omega) (by omega), if_neg c5]
  · have c1' : n ≤ 0 := by omega
    rw [if_neg c1, if_pos c1']
end
section
theorem chg7 {σ : Wd} {v : Nat} {n kind fee least : Int} (hv : v < 5) (hk : σ.1 103 (5 * v) = I kind) (hf : σ.1 112 (30 + v) = I fee) (hl : σ.1 103 (5 * v + 2) = I least) (k0 : 0 ≤ kind) (k2 : kind ≤ 2) (f1 : -9 ≤ fee) (f2 : fee ≤ 9) (l1 : 0 ≤ least) (l2 : least ≤ 300) (n1 : 0 ≤ n) (n2 : n ≤ 1000) :
    f_X7_chargeOf (I (v : Int)) (I n) σ = some (I (chg kind fee least n), σ) := by
  have e0 : (0 : Int32) = I 0 := rfl
  have e20 : (20 : Int32) = I 20 := rfl
  have t0 : f_X7_told (I (v : Int)) 0 σ = some (I kind, σ) := by
    rw [show (0 : Int32) = I ((0 : Nat) : Int) from rfl, told7 0 hv (by decide), Nat.add_zero, hk]
  have t2 : f_X7_told (I (v : Int)) 2 σ = some (I least, σ) := by
    rw [show (2 : Int32) = I ((2 : Nat) : Int) from rfl, told7 2 hv (by decide), hl]
  have i30 : (30 : Int32) + I (v : Int) = I ((30 + v : Nat) : Int) := by
    rw [show (30 : Int32) = I 30 from rfl, I_add]
    congr 1
  have hi : inb (I ((30 + v : Nat) : Int)) 179 = true := inI (by omega) (by decide)
  have hx : ix (I ((30 + v : Nat) : Int)) = 30 + v := ixI (by omega)
  have b1 : (I n = 0) ↔ n = 0 := by rw [e0]; exact I_eq (by unfold R; omega) (by unfold R; omega)
  have b2 : (I kind = 2) ↔ kind = 2 := by rw [show (2 : Int32) = I 2 from rfl]; exact I_eq (by unfold R; omega) (by unfold R; omega)
  have b3 : (I kind = 1) ↔ kind = 1 := by rw [show (1 : Int32) = I 1 from rfl]; exact I_eq (by unfold R; omega) (by unfold R; omega)
  have b4 : (I n ≤ 20) ↔ n ≤ 20 := by rw [e20]; exact I_le (by unfold R; omega) (by unfold R; omega)
  have b5 : (I fee < 0) ↔ fee < 0 := by rw [e0]; exact I_lt (by unfold R; omega) (by unfold R; omega)
  have c71 : ∀ s : Int, -100000 ≤ s → s ≤ 100000 → f_X7_chargeOf_71 (I (v : Int)) (I fee) (I s) σ = some (I (if 0 ≤ fee ∧ s < least then least else s), σ) := by
    intro s s1 s2
    have b6 : (I least ≤ I s) ↔ least ≤ s := I_le (by unfold R; omega) (by unfold R; omega)
    unfold f_X7_chargeOf_71 f_X7_chargeOf_95 f_X7_chargeOf_97
    simp only [t2, bd_s, b5, b6]
    by_cases c1 : fee < 0
    · have c2 : ¬ (0 ≤ fee ∧ s < least) := by omega
      rw [if_pos c1, if_neg c2]
    · rw [if_neg c1]
      by_cases c2 : least ≤ s
      · have c3 : ¬ (0 ≤ fee ∧ s < least) := by omega
        rw [if_pos c2, if_neg c3]
      · have c3 : 0 ≤ fee ∧ s < least := by omega
        rw [if_neg c2, if_pos c3]
  have g1 := fee_mul (n := n) f1 f2 (by omega) n2
  unfold f_X7_chargeOf chg
  simp only [t0, t2, bd_s, gd, hi, hx, i30, hf, b1, b2, b3, b4, half_low f1 f2, e20, I_mul, I_sub, I_add]
  by_cases c1 : n = 0
  · have c1' : n ≤ 0 := by omega
    rw [if_pos c1, if_pos c1']
    rfl
  · have c1' : ¬ n ≤ 0 := by omega
    rw [if_neg c1, if_neg c1']
    by_cases c2 : kind = 2
    · rw [if_pos c2, if_pos c2]
    · rw [if_neg c2, if_neg c2]
      by_cases c3 : kind = 1
      · rw [if_pos c3]
        by_cases c4 : n ≤ 20
        · have c5 : ¬ (kind = 1 ∧ 20 < n) := by omega
          have c4' : I n ≤ I 20 := b4.mpr c4
          rw [if_pos c4', c71 _ (by omega) (by omega), if_neg c5]
        · have c5 : kind = 1 ∧ 20 < n := by omega
          have c4' : ¬ I n ≤ I 20 := fun h => c4 (b4.mp h)
          have g2 : -9000 ≤ fee / 2 * (n - 20) ∧ fee / 2 * (n - 20) ≤ 9000 := fee_mul (by omega) (by omega) (by omega) (by omega)
          rw [if_neg c4', c71 _ (by omega) (by omega), if_pos c5]
      · have c5 : ¬ (kind = 1 ∧ 20 < n) := by omega
        rw [if_neg c3, c71 _ (by omega) (by omega), if_neg c5]
/-- n units by their prices, of the levels k .. k + r - 1 -/
def pz (pr sz : Nat → Int) : Nat → Nat → Int → Int
  | 0, _, _ => 0
  | r + 1, k, n => if n ≤ 0 then 0 else (if n ≤ sz k then n else sz k) * pr k + pz pr sz r (k + 1) (n - (if n ≤ sz k then n else sz k))
/-- sizes and prices of the levels k .. k + r - 1 are what they may be -/
def lvOk (pr sz : Nat → Int) (r k : Nat) : Prop := ∀ i, k ≤ i → i < k + r → 0 ≤ sz i ∧ sz i ≤ 99 ∧ 1 ≤ pr i ∧ pr i ≤ 999
theorem ps3 {σ : Wd} {m v lev : Nat} (hv : v < 5) (hl : σ.1 (m + 6) v = I (lev : Int)) (hl6 : lev ≤ 6) (hk : lvOk (T (σ.1 (m + 8))) (T (σ.1 (m + 9))) lev (6 * v)) : ∀ (r k n : Nat) (acc left : Int), r < n → k + r = lev → -1000 ≤ left → left ≤ 1000 →
    f_X3_costOf_20 m n (I (v : Int)) (I acc) (I left) (I ((6 * v : Nat) : Int)) (I ((6 * v + k : Nat) : Int)) σ = some (I (acc + pz (T (σ.1 (m + 8))) (T (σ.1 (m + 9))) r (6 * v + k) left), σ) := by
  intro r
  induction r with
  | zero =>
    intro k n acc left hn hkr q1 q2
    obtain ⟨n, rfl⟩ : ∃ q, n = q + 1 := ⟨n - 1, by omega⟩
    rw [f_X3_costOf_20]
    have h1 : I ((6 * v : Nat) : Int) + I (lev : Int) ≤ I ((6 * v + k : Nat) : Int) := by
      rw [I_add, I_le (by unfold R; omega) (by unfold R; omega)]
      omega
    simp only [inI (show v < 5 from hv) (by decide), gd, ixI (show v < 2147483648 by omega), hl, if_pos h1, f_X3_costOf_91, pz, Int.add_zero]
  | succ r ih =>
    intro k n acc left hn hkr q1 q2
    obtain ⟨n, rfl⟩ : ∃ q, n = q + 1 := ⟨n - 1, by omega⟩
    rw [f_X3_costOf_20]
    have h1 : ¬ I ((6 * v : Nat) : Int) + I (lev : Int) ≤ I ((6 * v + k : Nat) : Int) := by
      rw [I_add, I_le (by unfold R; omega) (by unfold R; omega)]
      omega
    have h2 : I ((6 * v + k : Nat) : Int) + 1 = I ((6 * v + (k + 1) : Nat) : Int) := by
      rw [show (1 : Int32) = I 1 from rfl, I_add]
      congr 1 <;> omega
    have h3 : inb (I ((6 * v + k : Nat) : Int)) 30 = true := inI (by omega) (by decide)
    have h4 : ix (I ((6 * v + k : Nat) : Int)) = 6 * v + k := ixI (by omega)
    obtain ⟨s1, s2, p1, p2⟩ := hk (6 * v + k) (by omega) (by omega)
    have b1 : (I left ≤ 0) ↔ left ≤ 0 := by rw [show (0 : Int32) = I 0 from rfl]; exact I_le (by unfold R; omega) (by unfold R; omega)
    have b2 : (I left ≤ σ.1 (m + 9) (6 * v + k)) ↔ left ≤ T (σ.1 (m + 9)) (6 * v + k) := by
      rw [rdI (σ.1 (m + 9)) (6 * v + k)]
      exact I_le (by unfold R; omega) (RT _ _)
    have key : ∀ t : Int, -1000 ≤ left - t → left - t ≤ 1000 → f_X3_costOf_63 m (f_X3_costOf_20 m n) (I (v : Int)) (I acc) (I left) (I ((6 * v : Nat) : Int)) (I ((6 * v + k : Nat) : Int)) (I t) σ = some (I (acc + (t * T (σ.1 (m + 8)) (6 * v + k) + pz (T (σ.1 (m + 8))) (T (σ.1 (m + 9))) r (6 * v + k + 1) (left - t))), σ) := by
      intro t t1 t2
      unfold f_X3_costOf_63
      simp only [h3, gd, h4, h2, I_sub]
      rw [rdI (σ.1 (m + 8)) (6 * v + k), I_mul, I_add, ih (k + 1) n _ _ (by omega) (by omega) t1 t2, Int.add_assoc]
      rfl
    simp only [inI (show v < 5 from hv) (by decide), gd, ixI (show v < 2147483648 by omega), hl, if_neg h1, b1, h3, h4, b2, pz]
    by_cases c1 : left ≤ 0
    · rw [if_pos c1, if_pos c1, f_X3_costOf_91, Int.add_zero]
    · rw [if_neg c1, if_neg c1]
      by_cases c2 : left ≤ T (σ.1 (m + 9)) (6 * v + k)
      · rw [if_pos c2, if_pos c2]
        exact key left (by omega) (by omega)
      · rw [if_neg c2, if_neg c2, rdI (σ.1 (m + 9)) (6 * v + k)]
        exact key _ (by omega) (by omega)
theorem cost3 {σ : Wd} {m v lev : Nat} {n kind fee least : Int} (hv : v < 5) (hl : σ.1 (m + 6) v = I (lev : Int)) (hl6 : lev ≤ 6) (hk9 : lvOk (T (σ.1 (m + 8))) (T (σ.1 (m + 9))) lev (6 * v)) (hk : σ.1 (m + 1) v = I kind) (hf : σ.1 (m + 3) v = I fee) (hle : σ.1 (m + 4) v = I least) (k0 : 0 ≤ kind) (k2 : kind ≤ 2) (f1 : -9 ≤ fee) (f2 : fee ≤ 9) (l1 : 0 ≤ least) (l2 : least ≤ 300) (n1 : -1000 ≤ n) (n2 : n ≤ 1000) :
    f_X3_costOf m (I (v : Int)) (I n) σ = some (I (chg kind fee least n + pz (T (σ.1 (m + 8))) (T (σ.1 (m + 9))) lev (6 * v) n), σ) := by
  unfold f_X3_costOf
  have h1 : I (v : Int) * 6 = I ((6 * v : Nat) : Int) := by
    rw [show (6 : Int32) = I 6 from rfl, I_mul]
    congr 1 <;> omega
  rw [chg3 hv hk hf hle k0 k2 f1 f2 l1 l2 n1 n2, bd_s, h1]
  exact ps3 hv hl hl6 hk9 lev 0 FU _ n (by unfold FU; omega) (by omega) n1 n2
theorem ps7 {σ : Wd} {v lev : Nat} (hv : v < 5) (hl : σ.1 103 (5 * v + 4) = I (lev : Int)) (hl6 : lev ≤ 6) (hk : lvOk (T (σ.1 104)) (T (σ.1 112)) lev (6 * v)) : ∀ (r k n : Nat) (acc left : Int), r < n → k + r = lev → -1000 ≤ left → left ≤ 1000 →
    f_X7_pricesOf_8 n (I (v : Int)) (I left) (I acc) (I (k : Int)) σ = some (I (acc + pz (T (σ.1 104)) (T (σ.1 112)) r (6 * v + k) left), σ) := by
  intro r
  induction r with
  | zero =>
    intro k n acc left hn hkr q1 q2
    obtain ⟨n, rfl⟩ : ∃ q, n = q + 1 := ⟨n - 1, by omega⟩
    rw [f_X7_pricesOf_8]
    have h1 : I (lev : Int) ≤ I (k : Int) := by
      rw [I_le (by unfold R; omega) (by unfold R; omega)]
      omega
    simp only [levels7 hv, bd_s, hl, if_pos h1, f_X7_pricesOf_72, pz, Int.add_zero]
  | succ r ih =>
    intro k n acc left hn hkr q1 q2
    obtain ⟨n, rfl⟩ : ∃ q, n = q + 1 := ⟨n - 1, by omega⟩
    rw [f_X7_pricesOf_8]
    have h1 : ¬ I (lev : Int) ≤ I (k : Int) := by
      rw [I_le (by unfold R; omega) (by unfold R; omega)]
      omega
    obtain ⟨s1, s2, p1, p2⟩ := hk (6 * v + k) (by omega) (by omega)
    have b1 : (I left ≤ 0) ↔ left ≤ 0 := by rw [show (0 : Int32) = I 0 from rfl]; exact I_le (by unfold R; omega) (by unfold R; omega)
    have b2 : (σ.1 112 (6 * v + k) ≤ I left) ↔ T (σ.1 112) (6 * v + k) ≤ left := by
      rw [rdI (σ.1 112) (6 * v + k)]
      exact I_le (RT _ _) (by unfold R; omega)
    have key : ∀ t : Int, -1000 ≤ left - t → left - t ≤ 1000 → f_X7_pricesOf_44 (f_X7_pricesOf_8 n) (I (v : Int)) (I left) (I acc) (I (k : Int)) (I t) σ = some (I (acc + (t * T (σ.1 104) (6 * v + k) + pz (T (σ.1 104)) (T (σ.1 112)) r (6 * v + k + 1) (left - t))), σ) := by
      intro t t1 t2
      unfold f_X7_pricesOf_44
      simp only [price7 hv (show k < 6 by omega), bd_s, I1, I_sub]
      rw [rdI (σ.1 104) (6 * v + k), I_mul, I_add, ih (k + 1) n _ _ (by omega) (by omega) t1 t2, Int.add_assoc]
      rfl
    simp only [levels7 hv, bd_s, hl, if_neg h1, b1, size7 hv (show k < 6 by omega), b2, pz]
    by_cases c1 : left ≤ 0
    · rw [if_pos c1, if_pos c1, f_X7_pricesOf_72, Int.add_zero]
    · rw [if_neg c1, if_neg c1]
      by_cases c2 : T (σ.1 112) (6 * v + k) ≤ left
      · rw [if_pos c2, rdI (σ.1 112) (6 * v + k)]
        have c3 : (if left ≤ T (σ.1 112) (6 * v + k) then left else T (σ.1 112) (6 * v + k)) = T (σ.1 112) (6 * v + k) := by
          split <;> omega
        rw [c3]
        exact key _ (by omega) (by omega)
      · have c3 : left ≤ T (σ.1 112) (6 * v + k) := by omega
        rw [if_neg c2, if_pos c3]
        exact key left (by omega) (by omega)
theorem cost7 {σ : Wd} {v lev : Nat} {n kind fee least : Int} (hv : v < 5) (hl : σ.1 103 (5 * v + 4) = I (lev : Int)) (hl6 : lev ≤ 6) (hk9 : lvOk (T (σ.1 104)) (T (σ.1 112)) lev (6 * v)) (hk : σ.1 103 (5 * v) = I kind) (hf : σ.1 112 (30 + v) = I fee) (hle : σ.1 103 (5 * v + 2) = I least) (k0 : 0 ≤ kind) (k2 : kind ≤ 2) (f1 : -9 ≤ fee) (f2 : fee ≤ 9) (l1 : 0 ≤ least) (l2 : least ≤ 300) (n1 : 0 ≤ n) (n2 : n ≤ 1000) :
    f_X7_costOf (I (v : Int)) (I n) σ = some (I (chg kind fee least n + pz (T (σ.1 104)) (T (σ.1 112)) lev (6 * v) n), σ) := by
  unfold f_X7_costOf f_X7_pricesOf
  have h := ps7 hv hl hl6 hk9 lev 0 FU 0 n (by unfold FU; omega) (by omega) (by omega) n2
  rw [show f_X7_pricesOf_8 FU (I (v : Int)) (I n) 0 0 σ = _ from h, bd_s, chg7 hv hk hf hle k0 k2 f1 f2 l1 l2 n1 n2, bd_s, I_add, Int.zero_add, Int.add_comm]
  rfl
end
section
/-! PURE: a market's numbers: kind, lot, fee, least, levels; prices and sizes by 6 v + k; and how class and reference hold them -/
abbrev MD : Type := ((Nat → Int) × (Nat → Int) × (Nat → Int) × (Nat → Int)) × (Nat → Nat) × (Nat → Int) × (Nat → Int)
abbrev MD.kd (d : MD) : Nat → Int := d.1.1
abbrev MD.lo (d : MD) : Nat → Int := d.1.2.1
abbrev MD.fe (d : MD) : Nat → Int := d.1.2.2.1
abbrev MD.le (d : MD) : Nat → Int := d.1.2.2.2
abbrev MD.lv (d : MD) : Nat → Nat := d.2.1
abbrev MD.pr (d : MD) : Nat → Int := d.2.2.1
abbrev MD.sz (d : MD) : Nat → Int := d.2.2.2
def MDok (d : MD) (V : Nat) : Prop := V ≤ 5 ∧ ∀ v, v < V → (0 ≤ d.kd v ∧ d.kd v ≤ 2) ∧ (1 ≤ d.lo v ∧ d.lo v ≤ 20) ∧ (-9 ≤ d.fe v ∧ d.fe v ≤ 9) ∧ (0 ≤ d.le v ∧ d.le v ≤ 300) ∧ d.lv v ≤ 6 ∧ lvOk d.pr d.sz (d.lv v) (6 * v)
/-- as the class holds it, at market m -/
def CV (m : Nat) (σ : Wd) (V : Nat) (d : MD) : Prop := σ.1 m 3 = I (V : Int) ∧ ∀ v, v < V → σ.1 (m + 1) v = I (d.kd v) ∧ σ.1 (m + 2) v = I (d.lo v) ∧ σ.1 (m + 3) v = I (d.fe v) ∧ σ.1 (m + 4) v = I (d.le v) ∧ σ.1 (m + 6) v = I (d.lv v : Int) ∧ ∀ k, k < d.lv v → σ.1 (m + 8) (6 * v + k) = I (d.pr (6 * v + k)) ∧ σ.1 (m + 9) (6 * v + k) = I (d.sz (6 * v + k))
/-- as the reference holds it -/
def RV (σ : Wd) (V : Nat) (d : MD) : Prop := σ.1 102 14 = I (V : Int) ∧ ∀ v, v < V → σ.1 103 (5 * v) = I (d.kd v) ∧ σ.1 103 (5 * v + 1) = I (d.lo v) ∧ σ.1 112 (30 + v) = I (d.fe v) ∧ σ.1 103 (5 * v + 2) = I (d.le v) ∧ σ.1 103 (5 * v + 4) = I (d.lv v : Int) ∧ ∀ k, k < d.lv v → σ.1 104 (6 * v + k) = I (d.pr (6 * v + k)) ∧ σ.1 112 (6 * v + k) = I (d.sz (6 * v + k))
theorem uz_congr {pr sz pr' sz' : Nat → Int} {p : Int} : ∀ (r k : Nat), (∀ i, k ≤ i → i < k + r → pr i = pr' i ∧ sz i = sz' i) → uz pr sz p r k = uz pr' sz' p r k
  | 0, _, _ => rfl
  | r + 1, k, h => by
    unfold uz
    rw [(h k (by omega) (by omega)).1, (h k (by omega) (by omega)).2, uz_congr r (k + 1) (fun i h1 h2 => h i (by omega) (by omega))]
theorem pz_congr {pr sz pr' sz' : Nat → Int} : ∀ (r k : Nat) (n : Int), (∀ i, k ≤ i → i < k + r → pr i = pr' i ∧ sz i = sz' i) → pz pr sz r k n = pz pr' sz' r k n
  | 0, _, _, _ => rfl
  | r + 1, k, n, h => by
    unfold pz
    rw [(h k (by omega) (by omega)).1, (h k (by omega) (by omega)).2, pz_congr r (k + 1) _ (fun i h1 h2 => h i (by omega) (by omega))]
theorem lvOk_congr {pr sz pr' sz' : Nat → Int} {r k : Nat} (h : ∀ i, k ≤ i → i < k + r → pr i = pr' i ∧ sz i = sz' i) (hk : lvOk pr' sz' r k) : lvOk pr sz r k := fun i h1 h2 => by
  rw [(h i h1 h2).1, (h i h1 h2).2]
  exact hk i h1 h2
theorem TI {f : Nat → Int32} {i : Nat} {z : Int} (h : f i = I z) (hz : R z) : T f i = z := by
  show (f i).toInt = z
  rw [h, I_toInt hz]
def dep (d : MD) (p : Int) (v : Nat) : Int := uz d.pr d.sz p (d.lv v) (6 * v)
def cst (d : MD) (v : Nat) (n : Int) : Int := chg (d.kd v) (d.fe v) (d.le v) n + pz d.pr d.sz (d.lv v) (6 * v) n
theorem cv_rng {m : Nat} {σ : Wd} {V v : Nat} {d : MD} (h : CV m σ V d) (hd : MDok d V) (hv : v < V) : ∀ i, 6 * v ≤ i → i < 6 * v + d.lv v → T (σ.1 (m + 8)) i = d.pr i ∧ T (σ.1 (m + 9)) i = d.sz i := by
  intro i h1 h2
  obtain ⟨k, rfl⟩ : ∃ k, i = 6 * v + k := ⟨i - 6 * v, by omega⟩
  obtain ⟨a, b⟩ := (h.2 v hv).2.2.2.2.2 k (by omega)
  obtain ⟨s1, s2, p1, p2⟩ := (hd.2 v hv).2.2.2.2.2 (6 * v + k) h1 h2
  exact ⟨TI a (by unfold R; omega), TI b (by unfold R; omega)⟩
theorem rv_rng {σ : Wd} {V v : Nat} {d : MD} (h : RV σ V d) (hd : MDok d V) (hv : v < V) : ∀ i, 6 * v ≤ i → i < 6 * v + d.lv v → T (σ.1 104) i = d.pr i ∧ T (σ.1 112) i = d.sz i := by
  intro i h1 h2
  obtain ⟨k, rfl⟩ : ∃ k, i = 6 * v + k := ⟨i - 6 * v, by omega⟩
  obtain ⟨a, b⟩ := (h.2 v hv).2.2.2.2.2 k (by omega)
  obtain ⟨s1, s2, p1, p2⟩ := (hd.2 v hv).2.2.2.2.2 (6 * v + k) h1 h2
  exact ⟨TI a (by unfold R; omega), TI b (by unfold R; omega)⟩
section VIEW
variable {m : Nat} {σ : Wd} {V v : Nat} {d : MD}
theorem cUnits (h : CV m σ V d) (hd : MDok d V) (hv : v < V) {p : Int} (hp : R p) : f_X3_unitsUpTo m (I (v : Int)) (I p) σ = some (I (dep d p v), σ) := by
  have h5 : v < 5 := Nat.lt_of_lt_of_le hv hd.1
  rw [uu3_ok h5 (h.2 v hv).2.2.2.2.1 (hd.2 v hv).2.2.2.2.1 hp, uz_congr _ _ (cv_rng h hd hv)]
  rfl
theorem rUnits (h : RV σ V d) (hd : MDok d V) (hv : v < V) {p : Int} (hp : R p) : f_X7_unitsTo (I (v : Int)) (I p) σ = some (I (dep d p v), σ) := by
  have h5 : v < 5 := Nat.lt_of_lt_of_le hv hd.1
  rw [uu7_ok h5 (h.2 v hv).2.2.2.2.1 (hd.2 v hv).2.2.2.2.1 hp, uz_congr _ _ (rv_rng h hd hv)]
  rfl
theorem cCharge (h : CV m σ V d) (hd : MDok d V) (hv : v < V) {n : Int} (n1 : -1000 ≤ n) (n2 : n ≤ 1000) : f_X3_chargeOf m (I (v : Int)) (I n) σ = some (I (chg (d.kd v) (d.fe v) (d.le v) n), σ) := by
  obtain ⟨a, b, c, e, f, g⟩ := hd.2 v hv
  exact chg3 (Nat.lt_of_lt_of_le hv hd.1) (h.2 v hv).1 (h.2 v hv).2.2.1 (h.2 v hv).2.2.2.1 a.1 a.2 c.1 c.2 e.1 e.2 n1 n2
theorem rCharge (h : RV σ V d) (hd : MDok d V) (hv : v < V) {n : Int} (n1 : 0 ≤ n) (n2 : n ≤ 1000) : f_X7_chargeOf (I (v : Int)) (I n) σ = some (I (chg (d.kd v) (d.fe v) (d.le v) n), σ) := by
  obtain ⟨a, b, c, e, f, g⟩ := hd.2 v hv
  exact chg7 (Nat.lt_of_lt_of_le hv hd.1) (h.2 v hv).1 (h.2 v hv).2.2.1 (h.2 v hv).2.2.2.1 a.1 a.2 c.1 c.2 e.1 e.2 n1 n2
theorem cCost (h : CV m σ V d) (hd : MDok d V) (hv : v < V) {n : Int} (n1 : -1000 ≤ n) (n2 : n ≤ 1000) : f_X3_costOf m (I (v : Int)) (I n) σ = some (I (cst d v n), σ) := by
  obtain ⟨a, b, c, e, f, g⟩ := hd.2 v hv
  rw [cost3 (Nat.lt_of_lt_of_le hv hd.1) (h.2 v hv).2.2.2.2.1 f (lvOk_congr (cv_rng h hd hv) g) (h.2 v hv).1 (h.2 v hv).2.2.1 (h.2 v hv).2.2.2.1 a.1 a.2 c.1 c.2 e.1 e.2 n1 n2, pz_congr _ _ _ (cv_rng h hd hv)]
  rfl
theorem rCost (h : RV σ V d) (hd : MDok d V) (hv : v < V) {n : Int} (n1 : 0 ≤ n) (n2 : n ≤ 1000) : f_X7_costOf (I (v : Int)) (I n) σ = some (I (cst d v n), σ) := by
  obtain ⟨a, b, c, e, f, g⟩ := hd.2 v hv
  rw [cost7 (Nat.lt_of_lt_of_le hv hd.1) (h.2 v hv).2.2.2.2.1 f (lvOk_congr (rv_rng h hd hv) g) (h.2 v hv).1 (h.2 v hv).2.2.1 (h.2 v hv).2.2.2.1 a.1 a.2 c.1 c.2 e.1 e.2 n1 n2, pz_congr _ _ _ (rv_rng h hd hv)]
  rfl
theorem cLot (h : CV m σ V d) (hd : MDok d V) (hv : v < V) : f_X3_lotOf m (I (v : Int)) σ = some (I (d.lo v), σ) := by
  have h5 : v < 5 := Nat.lt_of_lt_of_le hv hd.1
  obtain ⟨-, b, -⟩ := hd.2 v hv
  have e := (h.2 v hv).2.1
  have b1 : (I (d.lo v) ≤ 1) ↔ d.lo v ≤ 1 := by rw [show (1 : Int32) = I 1 from rfl]; exact I_le (by unfold R; omega) (by unfold R; omega)
  unfold f_X3_lotOf f_X3_lotOf_20
  simp only [inI (show v < 5 from h5) (by decide), gd, ixI (show v < 2147483648 by omega), e, b1]
  by_cases c : d.lo v ≤ 1
  · rw [if_pos c, show d.lo v = 1 by omega]; rfl
  · rw [if_neg c]
theorem rLot (h : RV σ V d) (hd : MDok d V) (hv : v < V) : f_X7_lot (I (v : Int)) σ = some (I (d.lo v), σ) := by
  rw [lot7 (Nat.lt_of_lt_of_le hv hd.1), (h.2 v hv).2.1]
end VIEW
end
section
/-! PURE: bounds of depth and cost; whole lots -/
theorem I_mod {a b : Int} (ha : R a) (hb : R b) (a0 : 0 ≤ a) (b0 : 0 < b) : I a % I b = I (a % b) := by
  rw [← I_of (I a % I b), Int32.toInt_mod, I_toInt ha, I_toInt hb, Int.tmod_eq_emod_of_nonneg a0]
theorem I_div {a b : Int} (ha : R a) (hb : R b) (a0 : 0 ≤ a) (b0 : 0 < b) : I a / I b = I (a / b) := by
  have hb1 : I b ≠ -1 := by
    intro h
    rw [show (-1 : Int32) = I (-1) from rfl, I_eq hb (by unfold R; omega)] at h
    omega
  rw [← I_of (I a / I b), Int32.toInt_div_of_ne_right _ _ hb1, I_toInt ha, I_toInt hb, Int.tdiv_eq_ediv_of_nonneg a0]
theorem uz_bnd {pr sz : Nat → Int} {p : Int} : ∀ (r k : Nat), lvOk pr sz r k → 0 ≤ uz pr sz p r k ∧ uz pr sz p r k ≤ 99 * (r : Int)
  | 0, _, _ => ⟨Int.le_refl 0, Int.le_refl 0⟩
  | r + 1, k, h => by
    obtain ⟨h1, h2⟩ := uz_bnd (pr := pr) (sz := sz) (p := p) r (k + 1) (fun i q1 q2 => h i (by omega) (by omega))
    obtain ⟨s1, s2, -⟩ := h k (by omega) (by omega)
    unfold uz
    split <;> constructor <;> omega
theorem pz_bnd {pr sz : Nat → Int} : ∀ (r k : Nat) (n : Int), lvOk pr sz r k → 0 ≤ n → 0 ≤ pz pr sz r k n ∧ pz pr sz r k n ≤ 999 * n
  | 0, _, n, _, hn => ⟨Int.le_refl 0, by show (0 : Int) ≤ 999 * n; omega⟩
  | r + 1, k, n, h, hn => by
    obtain ⟨s1, s2, p1, p2⟩ := h k (by omega) (by omega)
    unfold pz
    split
    · omega
    · have key : ∀ t : Int, 0 ≤ t → t ≤ n → 0 ≤ t * pr k + pz pr sz r (k + 1) (n - t) ∧ t * pr k + pz pr sz r (k + 1) (n - t) ≤ 999 * n := by
        intro t t1 t2
        obtain ⟨h1, h2⟩ := pz_bnd (pr := pr) (sz := sz) r (k + 1) (n - t) (fun i q1 q2 => h i (by omega) (by omega)) (by omega)
        have g1 : 0 ≤ t * pr k := Int.mul_nonneg t1 (by omega)
        have g2 : t * pr k ≤ t * 999 := Int.mul_le_mul_of_nonneg_left p2 t1
        omega
      split
      · exact key n hn (Int.le_refl n)
      · exact key (sz k) s1 (by omega)
theorem chg_bnd {kind fee least n : Int} (f1 : -9 ≤ fee) (f2 : fee ≤ 9) (l1 : 0 ≤ least) (l2 : least ≤ 300) (n1 : -1000 ≤ n) (n2 : n ≤ 1000) : -20000 ≤ chg kind fee least n ∧ chg kind fee least n ≤ 20000 := by
  have g1 := fee_mul (n := n) f1 f2 n1 n2
  unfold chg
  split
  · omega
  · split
    · omega
    · have g2 : -20000 ≤ (if kind = 1 ∧ 20 < n then fee * 20 + fee / 2 * (n - 20) else fee * n) ∧ (if kind = 1 ∧ 20 < n then fee * 20 + fee / 2 * (n - 20) else fee * n) ≤ 20000 := by
        split
        · have g3 : -9000 ≤ fee / 2 * (n - 20) ∧ fee / 2 * (n - 20) ≤ 9000 := fee_mul (by omega) (by omega) (by omega) (by omega)
          omega
        · omega
      split <;> omega
theorem dep_bnd {d : MD} {V v : Nat} {p : Int} (hd : MDok d V) (hv : v < V) : 0 ≤ dep d p v ∧ dep d p v ≤ 594 := by
  obtain ⟨-, -, -, -, f, g⟩ := hd.2 v hv
  obtain ⟨h1, h2⟩ := uz_bnd (p := p) (d.lv v) (6 * v) g
  unfold dep
  omega
theorem cst_bnd {d : MD} {V v : Nat} {n : Int} (hd : MDok d V) (hv : v < V) (n1 : 0 ≤ n) (n2 : n ≤ 1000) : -20000 ≤ cst d v n ∧ cst d v n ≤ 1019000 := by
  obtain ⟨a, b, c, e, f, g⟩ := hd.2 v hv
  have h1 := chg_bnd (kind := d.kd v) c.1 c.2 e.1 e.2 (show -1000 ≤ n by omega) n2
  have h2 := pz_bnd (d.lv v) (6 * v) n g n1
  unfold cst
  omega
theorem cst_0 {d : MD} {v : Nat} : cst d v 0 = 0 := by
  unfold cst
  have h : ∀ r k, pz d.pr d.sz r k 0 = 0 := by
    intro r k
    cases r with
    | zero => rfl
    | succ r => unfold pz; rw [if_pos (Int.le_refl 0)]
  rw [h]
  unfold chg
  rw [if_pos (Int.le_refl 0)]
  rfl
/-- the most units in whole lots, q at most -/
def whl (d : MD) (p : Int) (v : Nat) (q : Int) : Int := (if q ≤ dep d p v then q else dep d p v) - (if q ≤ dep d p v then q else dep d p v) % d.lo v
section LOTS
variable {m : Nat} {σ : Wd} {V v : Nat} {d : MD} {p : Int}
theorem cDepth (h : CV m σ V d) (hd : MDok d V) (hv : v < V) (hp : R p) (hl : σ.1 m 1 = I p) : f_X3_depthOf m (I (v : Int)) σ = some (I (dep d p v), σ) := by
  unfold f_X3_depthOf
  rw [hl, cUnits h hd hv hp]
  rfl
theorem rDepth (h : RV σ V d) (hd : MDok d V) (hv : v < V) (hp : R p) (hl : σ.1 102 12 = I p) : f_X7_depth (I (v : Int)) σ = some (I (dep d p v), σ) := by
  unfold f_X7_depth
  rw [hl, rUnits h hd hv hp]
  rfl
theorem cWhole (h : CV m σ V d) (hd : MDok d V) (hv : v < V) (hp : R p) (hl : σ.1 m 1 = I p) {q : Int} (q1 : 0 ≤ q) (q2 : q ≤ 1000) : f_X3_wholeLots m (I (v : Int)) (I q) σ = some (I (whl d p v q), σ) := by
  obtain ⟨d1, d2⟩ := dep_bnd (p := p) hd hv
  obtain ⟨-, b, -⟩ := hd.2 v hv
  have key : ∀ s : Int, 0 ≤ s → s ≤ 1000 → f_X3_wholeLots_20 m (I (v : Int)) (I s) σ = some (I (s - s % d.lo v), σ) := by
    intro s s1 s2
    have b1 : (!decide (I (d.lo v) = 0)) = true := by
      rw [show (0 : Int32) = I 0 from rfl]
      have : ¬ I (d.lo v) = I 0 := by rw [I_eq (by unfold R; omega) (by unfold R; omega)]; omega
      simp [this]
    unfold f_X3_wholeLots_20
    rw [cLot h hd hv, bd_s, b1, I_mod (by unfold R; omega) (by unfold R; omega) s1 (by omega), I_sub]
    rfl
  have b2 : (I q ≤ I (dep d p v)) ↔ q ≤ dep d p v := I_le (by unfold R; omega) (by unfold R; omega)
  unfold f_X3_wholeLots whl
  simp only [hl, cUnits h hd hv hp, bd_s, b2]
  by_cases c : q ≤ dep d p v
  · simp only [if_pos c]
    exact key q q1 q2
  · simp only [if_neg c]
    exact key _ d1 (by omega)
theorem rMost (h : RV σ V d) (hd : MDok d V) (hv : v < V) (hp : R p) (hl : σ.1 102 12 = I p) {q but : Int} (q1 : 0 ≤ q) (q2 : q ≤ 1000) (hb : R but) : f_X7_mostAt (I (v : Int)) (I q) (I but) σ = some (I (if (v : Int) = but then 0 else whl d p v q), σ) := by
  obtain ⟨d1, d2⟩ := dep_bnd (p := p) hd hv
  obtain ⟨-, b, -⟩ := hd.2 v hv
  have h5 : v < 5 := Nat.lt_of_lt_of_le hv hd.1
  have key : ∀ s : Int, 0 ≤ s → s ≤ 1000 → f_X7_mostAt_25 (I (v : Int)) (I s) σ = some (I (s - s % d.lo v), σ) := by
    intro s s1 s2
    have b1 : (!decide (I (d.lo v) = 0)) = true := by
      rw [show (0 : Int32) = I 0 from rfl]
      have : ¬ I (d.lo v) = I 0 := by rw [I_eq (by unfold R; omega) (by unfold R; omega)]; omega
      simp [this]
    unfold f_X7_mostAt_25
    rw [rLot h hd hv, bd_s, b1]
    show bd (f_X7_lot (I (v : Int)) σ) _ = _
    rw [rLot h hd hv, bd_s, I_div (by unfold R; omega) (by unfold R; omega) s1 (by omega), I_mul]
    have e := Int.mul_ediv_add_emod s (d.lo v)
    rw [show s / d.lo v * d.lo v = s - s % d.lo v from by rw [Int.mul_comm]; omega]
  have b2 : (I q ≤ I (dep d p v)) ↔ q ≤ dep d p v := I_le (by unfold R; omega) (by unfold R; omega)
  have b3 : (I (v : Int) = I but) ↔ (v : Int) = but := I_eq (by unfold R; omega) hb
  unfold f_X7_mostAt whl
  simp only [b3, rDepth h hd hv hp hl, bd_s, b2]
  by_cases c0 : (v : Int) = but
  · rw [if_pos c0, if_pos c0]; rfl
  · rw [if_neg c0, if_neg c0]
    by_cases c : q ≤ dep d p v
    · simp only [if_pos c]
      exact key q q1 q2
    · simp only [if_neg c]
      exact key _ d1 (by omega)
end LOTS
end
section
/-! PURE: the least of some numbers, none being more than any; the best split, from the last venue to the first -/
def omin : Option Int → Option Int → Option Int
  | none, b => b
  | a, none => a
  | some x, some y => some (if y < x then y else x)
def oadd (c : Int) : Option Int → Option Int
  | none => none
  | some x => some (c + x)
theorem omin_none (a : Option Int) : omin a none = a := by cases a <;> rfl
theorem none_omin (a : Option Int) : omin none a = a := by cases a <;> rfl
theorem omin_comm (a b : Option Int) : omin a b = omin b a := by
  cases a <;> cases b <;> try rfl
  rename_i x y
  show some _ = some _
  congr 1
  split <;> split <;> omega
theorem omin_assoc (a b c : Option Int) : omin (omin a b) c = omin a (omin b c) := by
  cases a with
  | none => rw [none_omin, none_omin]
  | some x =>
    cases b with
    | none => rw [omin_none, none_omin]
    | some y =>
      cases c with
      | none => rw [omin_none, omin_none]
      | some z =>
        show some _ = some _
        congr 1
        by_cases h1 : y < x
        · rw [if_pos h1]
          by_cases h2 : z < y
          · rw [if_pos h2, if_pos (show z < x by omega)]
          · rw [if_neg h2, if_pos h1]
        · rw [if_neg h1]
          by_cases h2 : z < y
          · rw [if_pos h2]
          · rw [if_neg h2, if_neg h1, if_neg (show ¬ z < x by omega)]
/-- the least of f 0 .. f K -/
def mnf (f : Nat → Option Int) : Nat → Option Int
  | 0 => f 0
  | K + 1 => omin (mnf f K) (f (K + 1))
/-- upwards from i, r of them -/
def amn (f : Nat → Option Int) : Nat → Nat → Option Int → Option Int
  | 0, _, acc => acc
  | r + 1, i, acc => amn f r (i + 1) (omin acc (f i))
/-- downwards from i to 0 -/
def dmn (f : Nat → Option Int) : Nat → Option Int → Option Int
  | 0, acc => omin acc (f 0)
  | i + 1, acc => dmn f i (omin acc (f (i + 1)))
theorem dmn_eq (f : Nat → Option Int) : ∀ (i : Nat) (acc : Option Int), dmn f i acc = omin acc (mnf f i)
  | 0, _ => rfl
  | i + 1, acc => by
    unfold dmn mnf
    rw [dmn_eq f i, omin_assoc, omin_comm (f (i + 1))]
theorem amn_eq (f : Nat → Option Int) : ∀ (r i : Nat), amn f r (i + 1) (mnf f i) = mnf f (i + r)
  | 0, _ => rfl
  | r + 1, i => by
    unfold amn
    rw [show omin (mnf f i) (f (i + 1)) = mnf f (i + 1) from rfl, amn_eq f r (i + 1)]
    congr 1
    omega
theorem amn_0 (f : Nat → Option Int) (K : Nat) : amn f (K + 1) 0 none = mnf f K := by
  unfold amn
  rw [none_omin, show f 0 = mnf f 0 from rfl, amn_eq f K 0, Nat.zero_add]
theorem mnf_le {f : Nat → Option Int} {x : Int} : ∀ {K : Nat}, mnf f K = some x → ∀ i, i ≤ K → ∀ y, f i = some y → x ≤ y
  | 0, h, i, hi, y, hy => by
    have : i = 0 := by omega
    subst this
    have h : f 0 = some x := h
    rw [h] at hy
    cases hy
    exact Int.le_refl _
  | K + 1, h, i, hi, y, hy => by
    have h : omin (mnf f K) (f (K + 1)) = some x := h
    cases h1 : mnf f K with
    | none =>
      rw [h1, none_omin] at h
      by_cases e : i = K + 1
      · subst e
        rw [h] at hy
        cases hy
        exact Int.le_refl _
      · exact absurd hy (by rw [mnf_none h1 i (by omega)]; exact fun h => by cases h)
    | some z =>
      have ih := mnf_le h1
      cases h2 : f (K + 1) with
      | none =>
        rw [h1, h2] at h
        have h : some z = some x := h
        cases h
        by_cases e : i = K + 1
        · subst e
          rw [h2] at hy
          cases hy
        · exact ih i (by omega) y hy
      | some w =>
        rw [h1, h2] at h
        have h : some (if w < z then w else z) = some x := h
        have h := Option.some.inj h
        by_cases e : i = K + 1
        · subst e
          rw [h2] at hy
          cases hy
          split at h <;> omega
        · have := ih i (by omega) y hy
          split at h <;> omega
where
  mnf_none {f : Nat → Option Int} : ∀ {K : Nat}, mnf f K = none → ∀ i, i ≤ K → f i = none
  | 0, h, i, hi => by
    have : i = 0 := by omega
    subst this
    exact h
  | K + 1, h, i, hi => by
    have h : omin (mnf f K) (f (K + 1)) = none := h
    cases h1 : mnf f K with
    | none =>
      rw [h1, none_omin] at h
      by_cases e : i = K + 1
      · subst e; exact h
      · exact mnf_none h1 i (by omega)
    | some z =>
      cases h2 : f (K + 1) with
      | none => rw [h1, h2] at h; cases h
      | some w => rw [h1, h2] at h; cases h
theorem mnf_at {f : Nat → Option Int} {x : Int} : ∀ {K : Nat}, mnf f K = some x → ∃ i, i ≤ K ∧ f i = some x
  | 0, h => ⟨0, Nat.le_refl 0, h⟩
  | K + 1, h => by
    have h : omin (mnf f K) (f (K + 1)) = some x := h
    cases h1 : mnf f K with
    | none =>
      rw [h1, none_omin] at h
      exact ⟨K + 1, Nat.le_refl _, h⟩
    | some z =>
      cases h2 : f (K + 1) with
      | none =>
        rw [h1, h2] at h
        have h : some z = some x := h
        rw [h] at h1
        obtain ⟨i, hi, hf⟩ := mnf_at h1
        exact ⟨i, by omega, hf⟩
      | some w =>
        rw [h1, h2] at h
        have h : some (if w < z then w else z) = some x := h
        have h := Option.some.inj h
        by_cases c : w < z
        · rw [if_pos c] at h
          exact ⟨K + 1, Nat.le_refl _, by rw [h2, h]⟩
        · rw [if_neg c] at h
          rw [h] at h1
          obtain ⟨i, hi, hf⟩ := mnf_at h1
          exact ⟨i, by omega, hf⟩
end
section
/-! PURE: one row of the best split: what the class' and the reference's loops find -/
def enc (B : Int) : Option Int → Int
  | none => B
  | some x => x
def OB (b : Int) (o : Option Int) : Prop := ∀ x, o = some x → -b ≤ x ∧ x ≤ b
theorem OB_omin {b : Int} {o p : Option Int} (ho : OB b o) (hp : OB b p) : OB b (omin o p) := by
  cases o with
  | none => rw [none_omin]; exact hp
  | some x =>
    cases p with
    | none => rw [omin_none]; exact ho
    | some y =>
      intro z hz
      have hz : some (if y < x then y else x) = some z := hz
      have hz := Option.some.inj hz
      have h1 := ho x rfl
      have h2 := hp y rfl
      split at hz <;> omega
theorem enc_R {B b : Int} {o : Option Int} (h : OB b o) (hb : b < 2147483648) (hB : R B) : R (enc B o) := by
  cases o with
  | none => exact hB
  | some x =>
    have := h x rfl
    show R x
    unfold R
    omega
set_option maxHeartbeats 1000000 in
theorem lc1 {σ : Wd} {v u l K M : Nat} {c : Nat → Int} {g : Nat → Option Int} (hv : v < 5) (hu : u ≤ 120) (hl : 1 ≤ l) (hl2 : l ≤ 20) (hK : K * l ≤ M) (hM : M < K * l + l) (hMu : M ≤ u)
    (hc : ∀ i, i ≤ K → σ.1 7 (121 * v + i * l) = I (c i)) (hcb : ∀ i, i ≤ K → -10000000 ≤ c i ∧ c i ≤ 10000000)
    (hg : ∀ i, i ≤ K → σ.1 8 (121 * (v + 1) + u - i * l) = I (enc 1000000000 (g i))) (hgb : ∀ i, i ≤ K → OB 10000000 (g i)) :
    ∀ (r i n : Nat) (acc : Option Int), r < n → i + r = K + 1 → OB 20000000 acc →
      f_X1_leastCostFrom_29 n (I (v : Int)) (I (u : Int)) (I (l : Int)) (I (enc 1000000000 acc)) (I (M : Int)) (I ((i * l : Nat) : Int)) σ = some (I (enc 1000000000 (amn (fun i => oadd (c i) (g i)) r i acc)), σ)
  | 0, i, n + 1, acc, _, hi, ha => by
    have hi : i = K + 1 := by omega
    subst hi
    have e : (K + 1) * l = K * l + l := Nat.succ_mul K l
    have b1 : I (M : Int) < I (((K + 1) * l : Nat) : Int) := by
      rw [I_lt (by unfold R; omega) (by unfold R; omega)]; omega
    rw [f_X1_leastCostFrom_29]
    dsimp only
    rw [if_pos b1]
    rfl
  | r + 1, i, n + 1, acc, hn, hi, ha => by
    have hiK : i ≤ K := by omega
    have m1 : i * l ≤ K * l := Nat.mul_le_mul_right l hiK
    have e : (i + 1) * l = i * l + l := Nat.succ_mul i l
    have b1 : ¬ I (M : Int) < I ((i * l : Nat) : Int) := by
      rw [I_lt (by unfold R; omega) (by unfold R; omega)]; omega
    have x1 : ((I (v : Int) + (1 : Int32)) * (121 : Int32) + I (u : Int)) - I ((i * l : Nat) : Int) = I ((121 * (v + 1) + u - i * l : Nat) : Int) := by
      rw [show (1 : Int32) = I 1 from rfl, show (121 : Int32) = I 121 from rfl, I_add, I_mul, I_add, I_sub]
      congr 1
      omega
    have x2 : I (v : Int) * (121 : Int32) + I ((i * l : Nat) : Int) = I ((121 * v + i * l : Nat) : Int) := by
      rw [show (121 : Int32) = I 121 from rfl, I_mul, I_add]
      congr 1
      omega
    have x3 : I ((i * l : Nat) : Int) + I (l : Int) = I (((i + 1) * l : Nat) : Int) := by
      rw [I_add]
      congr 1
      omega
    have a1 := inI (n := 121 * (v + 1) + u - i * l) (N := 726) (by omega) (by omega)
    have a2 := inI (n := 121 * v + i * l) (N := 605) (by omega) (by omega)
    have a3 := ixI (n := 121 * (v + 1) + u - i * l) (by omega)
    have a4 := ixI (n := 121 * v + i * l) (by omega)
    have gb := hgb i hiK
    have cb := hcb i hiK
    rw [f_X1_leastCostFrom_29]
    dsimp only
    rw [if_neg b1]
    simp only [x1, x2, a1, a2, a3, a4, hg i hiK, hc i hiK, f_X1_leastCostFrom_98, x3]
    unfold amn
    cases hgi : g i with
    | none =>
      have b2 : (1000000000 : Int32) ≤ I (enc 1000000000 none) := by
        show I 1000000000 ≤ I 1000000000
        rw [I_le (by unfold R; omega) (by unfold R; omega)]; omega
      show gd true (if (1000000000 : Int32) ≤ I (enc 1000000000 none) then _ else _) = _
      rw [if_pos b2]
      show f_X1_leastCostFrom_29 n _ _ _ _ _ _ σ = _
      rw [lc1 hv hu hl hl2 hK hM hMu hc hcb hg hgb r (i + 1) n acc (by omega) (by omega) ha]
      rw [show oadd (c i) none = none from rfl, omin_none]
    | some y =>
      have yb := gb y hgi
      have b2 : ¬ (1000000000 : Int32) ≤ I (enc 1000000000 (some y)) := by
        show ¬ I 1000000000 ≤ I y
        rw [I_le (by unfold R; omega) (by unfold R; omega)]; omega
      have ob : OB 20000000 (oadd (c i) (some y)) := by
        intro z hz
        have hz : some (c i + y) = some z := hz
        have hz := Option.some.inj hz
        omega
      have sm : I (c i) + I (enc 1000000000 (some y)) = I (c i + y) := I_add _ _
      have b3 : (I (enc 1000000000 acc) ≤ I (c i + y)) ↔ enc 1000000000 acc ≤ c i + y :=
        I_le (enc_R ha (by omega) (by unfold R; omega)) (by unfold R; omega)
      have ih := lc1 hv hu hl hl2 hK hM hMu hc hcb hg hgb r (i + 1) n (omin acc (oadd (c i) (some y))) (by omega) (by omega) (OB_omin ha ob)
      show gd true (if (1000000000 : Int32) ≤ I (enc 1000000000 (some y)) then _ else _) = _
      rw [if_neg b2, ← ih]
      simp only [sm, b3]
      show (if enc 1000000000 acc ≤ c i + y then _ else _) = _
      by_cases q : enc 1000000000 acc ≤ c i + y
      · rw [if_pos q]
        have : omin acc (oadd (c i) (some y)) = acc := by
          cases acc with
          | none => exact absurd q (by show ¬ (1000000000 : Int) ≤ _; omega)
          | some x =>
            have q : x ≤ c i + y := q
            show some (if c i + y < x then c i + y else x) = some x
            rw [if_neg (by omega)]
        rw [this]
      · rw [if_neg q]
        have : omin acc (oadd (c i) (some y)) = some (c i + y) := by
          cases acc with
          | none => rfl
          | some x =>
            have q : ¬ x ≤ c i + y := q
            show some (if c i + y < x then c i + y else x) = some (c i + y)
            rw [if_pos (by omega)]
        rw [this]
        rfl
theorem lc7_end {σ : Wd} {n : Nat} {x1 x2 x4 : Int32} {l : Int} (h1 : 1 ≤ l) (h2 : l ≤ 20) : f_X7_leastFrom_14 (n + 1) x1 x2 x4 (I (0 - l)) σ = some (x4, σ) := by
  have b1 : I (0 - l) < 0 := by
    show I (0 - l) < I 0
    rw [I_lt (by unfold R; omega) (by unfold R; omega)]; omega
  rw [f_X7_leastFrom_14]
  dsimp only
  rw [if_pos b1]
set_option maxHeartbeats 1000000 in
theorem lc7_step {σ : Wd} {V v u l i n : Nat} {d : MD} {gi acc : Option Int} (h : RV σ V d) (hd : MDok d V) (hv : v < V) (hu : u ≤ 120) (hl : d.lo v = (l : Int)) (hi : i * l ≤ u)
    (hg : σ.1 116 (121 * (v + 1) + u - i * l) = I (enc 100000000 gi)) (gb : OB 10000000 gi) (ha : OB 20000000 acc) :
    f_X7_leastFrom_14 (n + 1) (I (v : Int)) (I (u : Int)) (I (enc 100000000 acc)) (I ((i * l : Nat) : Int)) σ
      = f_X7_leastFrom_14 n (I (v : Int)) (I (u : Int)) (I (enc 100000000 (omin acc (oadd (cst d v ((i * l : Nat) : Int)) gi)))) (I (((i * l : Nat) : Int) - (l : Int))) σ
      ∧ OB 20000000 (omin acc (oadd (cst d v ((i * l : Nat) : Int)) gi)) := by
  have v5 : v < 5 := Nat.lt_of_lt_of_le hv hd.1
  obtain ⟨-, lb, -⟩ := hd.2 v hv
  obtain ⟨c1, c2⟩ := cst_bnd (n := ((i * l : Nat) : Int)) hd hv (by omega) (by omega)
  have b1 : ¬ I ((i * l : Nat) : Int) < 0 := by
    show ¬ I ((i * l : Nat) : Int) < I 0
    rw [I_lt (by unfold R; omega) (by unfold R; omega)]; omega
  have x1 : ((121 : Int32) * (I (v : Int) + (1 : Int32)) + I (u : Int)) - I ((i * l : Nat) : Int) = I ((121 * (v + 1) + u - i * l : Nat) : Int) := by
    rw [show (1 : Int32) = I 1 from rfl, show (121 : Int32) = I 121 from rfl, I_add, I_mul, I_add, I_sub]
    congr 1
    omega
  have a1 := inI (n := 121 * (v + 1) + u - i * l) (N := 726) (by omega) (by omega)
  have a3 := ixI (n := 121 * (v + 1) + u - i * l) (by omega)
  have st : ∀ z : Int32, f_X7_leastFrom_71 (f_X7_leastFrom_14 n) (I (v : Int)) (I (u : Int)) z (I ((i * l : Nat) : Int)) σ = f_X7_leastFrom_14 n (I (v : Int)) (I (u : Int)) z (I (((i * l : Nat) : Int) - (l : Int))) σ := by
    intro z
    unfold f_X7_leastFrom_71
    rw [rLot h hd hv, bd_s, hl, I_sub]
  rw [f_X7_leastFrom_14]
  dsimp only
  rw [if_neg b1]
  simp only [x1, a1, a3, hg, st, rCost h hd hv (n := ((i * l : Nat) : Int)) (by omega) (by omega), bd_s]
  cases gi with
  | none =>
    have b2 : ¬ I (enc 100000000 none) < (50000000 : Int32) := by
      show ¬ I 100000000 < I 50000000
      rw [I_lt (by unfold R; omega) (by unfold R; omega)]; omega
    rw [show oadd (cst d v ((i * l : Nat) : Int)) none = none from rfl, omin_none]
    refine ⟨?_, ha⟩
    rw [if_neg b2]
    rfl
  | some y =>
    have yb := gb y rfl
    have b2 : I (enc 100000000 (some y)) < (50000000 : Int32) := by
      show I y < I 50000000
      rw [I_lt (by unfold R; omega) (by unfold R; omega)]; omega
    have ob : OB 20000000 (oadd (cst d v ((i * l : Nat) : Int)) (some y)) := by
      intro z hz
      have hz : some (cst d v ((i * l : Nat) : Int) + y) = some z := hz
      have hz := Option.some.inj hz
      omega
    have sm : I (cst d v ((i * l : Nat) : Int)) + I (enc 100000000 (some y)) = I (cst d v ((i * l : Nat) : Int) + y) := I_add _ _
    have b3 : (I (enc 100000000 acc) ≤ I (cst d v ((i * l : Nat) : Int) + y)) ↔ enc 100000000 acc ≤ cst d v ((i * l : Nat) : Int) + y :=
      I_le (enc_R ha (by omega) (by unfold R; omega)) (by unfold R; omega)
    refine ⟨?_, OB_omin ha ob⟩
    show (if I (enc 100000000 (some y)) < (50000000 : Int32) then _ else _) = _
    rw [if_pos b2]
    simp only [sm, b3]
    by_cases q : enc 100000000 acc ≤ cst d v ((i * l : Nat) : Int) + y
    · rw [if_pos q]
      have : omin acc (oadd (cst d v ((i * l : Nat) : Int)) (some y)) = acc := by
        cases acc with
        | none => exact absurd q (by show ¬ (100000000 : Int) ≤ _; omega)
        | some x =>
          have q : x ≤ cst d v ((i * l : Nat) : Int) + y := q
          show some (if cst d v ((i * l : Nat) : Int) + y < x then cst d v ((i * l : Nat) : Int) + y else x) = some x
          rw [if_neg (by omega)]
      rw [this]
    · rw [if_neg q]
      have : omin acc (oadd (cst d v ((i * l : Nat) : Int)) (some y)) = some (cst d v ((i * l : Nat) : Int) + y) := by
        cases acc with
        | none => rfl
        | some x =>
          have q : ¬ x ≤ cst d v ((i * l : Nat) : Int) + y := q
          show some (if cst d v ((i * l : Nat) : Int) + y < x then cst d v ((i * l : Nat) : Int) + y else x) = some (cst d v ((i * l : Nat) : Int) + y)
          rw [if_pos (by omega)]
      rw [this]
      rfl
theorem lc7 {σ : Wd} {V v u l K : Nat} {d : MD} {g : Nat → Option Int} (h : RV σ V d) (hd : MDok d V) (hv : v < V) (hu : u ≤ 120) (hl : d.lo v = (l : Int)) (hK : K * l ≤ u)
    (hg : ∀ i, i ≤ K → σ.1 116 (121 * (v + 1) + u - i * l) = I (enc 100000000 (g i))) (hgb : ∀ i, i ≤ K → OB 10000000 (g i)) :
    ∀ (i n : Nat) (acc : Option Int), i + 1 < n → i ≤ K → OB 20000000 acc →
      f_X7_leastFrom_14 n (I (v : Int)) (I (u : Int)) (I (enc 100000000 acc)) (I ((i * l : Nat) : Int)) σ = some (I (enc 100000000 (dmn (fun i => oadd (cst d v ((i * l : Nat) : Int)) (g i)) i acc)), σ)
  | i, 0, acc, hn, hi, ha => absurd hn (by omega)
  | i, n + 1, acc, hn, hi, ha => by
    obtain ⟨-, lb, -⟩ := hd.2 v hv
    obtain ⟨e1, e2⟩ := lc7_step (n := n) h hd hv hu hl (Nat.le_trans (Nat.mul_le_mul_right l hi) hK) (hg i hi) (hgb i hi) ha
    rw [e1]
    match i, n, hn, hi, e2 with
    | 0, n + 1, hn, hi, e2 =>
      rw [show (((0 * l : Nat) : Int) - (l : Int)) = 0 - (l : Int) from by rw [Nat.zero_mul]; rfl, lc7_end (by omega) (by omega)]
      rfl
    | i + 1, n, hn, hi, e2 =>
      rw [show ((((i + 1) * l : Nat) : Int) - (l : Int)) = ((i * l : Nat) : Int) from by rw [Nat.succ_mul]; omega]
      rw [lc7 h hd hv hu hl hK hg hgb i n _ (by omega) (by omega) e2]
      rfl
theorem div_box {M l : Nat} (hl : 1 ≤ l) : M / l * l ≤ M ∧ M < M / l * l + l := by
  have e := Nat.div_add_mod M l
  have m := Nat.mod_lt M (show l > 0 by omega)
  rw [Nat.mul_comm] at e
  omega
theorem lc1_ok {σ : Wd} {v u l room : Nat} {c : Nat → Int} {g : Nat → Option Int} (hv : v < 5) (hu : u ≤ 120) (hl : 1 ≤ l) (hl2 : l ≤ 20) (hr : room ≤ 1000) (hm : σ.1 6 v = I (room : Int))
    (hc : ∀ i, i ≤ min u room / l → σ.1 7 (121 * v + i * l) = I (c i)) (hcb : ∀ i, i ≤ min u room / l → -10000000 ≤ c i ∧ c i ≤ 10000000)
    (hg : ∀ i, i ≤ min u room / l → σ.1 8 (121 * (v + 1) + u - i * l) = I (enc 1000000000 (g i))) (hgb : ∀ i, i ≤ min u room / l → OB 10000000 (g i)) :
    f_X1_leastCostFrom (I (v : Int)) (I (u : Int)) (I (l : Int)) σ = some (I (enc 1000000000 (mnf (fun i => oadd (c i) (g i)) (min u room / l))), σ) := by
  obtain ⟨k1, k2⟩ := div_box (M := min u room) hl
  have kl : min u room / l ≤ min u room := Nat.div_le_self _ _
  have a1 := inI (n := v) (N := 5) hv (by omega)
  have a2 := ixI (n := v) (by omega)
  have b1 : (I (u : Int) ≤ I (room : Int)) ↔ (u : Int) ≤ (room : Int) := I_le (by unfold R; omega) (by unfold R; omega)
  have key : f_X1_leastCostFrom_24 (I (v : Int)) (I (u : Int)) (I (l : Int)) (1000000000 : Int32) (I ((min u room : Nat) : Int)) σ = some (I (enc 1000000000 (mnf (fun i => oadd (c i) (g i)) (min u room / l))), σ) := by
    have := lc1 (M := min u room) hv hu hl hl2 k1 k2 (by omega) hc hcb hg hgb (min u room / l + 1) 0 FU none (by show _ < 6000; omega) (by omega) (fun x hx => by cases hx)
    rw [amn_0, Nat.zero_mul] at this
    exact this
  unfold f_X1_leastCostFrom
  simp only [a1, a2, hm, b1]
  show (if (u : Int) ≤ (room : Int) then _ else _) = _
  by_cases q : (u : Int) ≤ (room : Int)
  · rw [if_pos q]
    rw [show min u room = u from by omega] at key ⊢
    exact key
  · rw [if_neg q]
    rw [show min u room = room from by omega] at key ⊢
    exact key
theorem lc7_ok {σ : Wd} {V v u l K : Nat} {p but : Int} {d : MD} {g : Nat → Option Int} (h : RV σ V d) (hd : MDok d V) (hv : v < V) (hp : R p) (hlim : σ.1 102 12 = I p) (hb : R but) (hu : u ≤ 120) (hl : d.lo v = (l : Int)) (hK : K * l ≤ u)
    (hk : (if (v : Int) = but then 0 else whl d p v (u : Int)) = ((K * l : Nat) : Int))
    (hg : ∀ i, i ≤ K → σ.1 116 (121 * (v + 1) + u - i * l) = I (enc 100000000 (g i))) (hgb : ∀ i, i ≤ K → OB 10000000 (g i)) :
    f_X7_leastFrom (I (v : Int)) (I (u : Int)) (I but) σ = some (I (enc 100000000 (mnf (fun i => oadd (cst d v ((i * l : Nat) : Int)) (g i)) K)), σ) := by
  obtain ⟨-, lb, -⟩ := hd.2 v hv
  have kK : K ≤ K * l := Nat.le_mul_of_pos_right K (by omega)
  have := lc7 h hd hv hu hl hK hg hgb K FU none (by show _ < 6000; omega) (Nat.le_refl _) (fun x hx => by cases hx)
  unfold f_X7_leastFrom
  rw [rMost h hd hv hp hlim (q := (u : Int)) (by omega) (by omega) hb, bd_s, hk]
  rw [dmn_eq, none_omin] at this
  exact this
end
section
/-! PURE: the least cost of u units over the last j venues -/
/-- how many lots of venue v fit into u units, venue but left out -/
def kx (d : MD) (p but : Int) (v u : Nat) : Nat := if (v : Int) = but then 0 else min u (dep d p v).toNat / (d.lo v).toNat
def lcs (d : MD) (p but : Int) (V : Nat) : Nat → Nat → Option Int
  | 0, u => if u = 0 then some 0 else none
  | j + 1, u => mnf (fun i => oadd (cst d (V - (j + 1)) ((i * (d.lo (V - (j + 1))).toNat : Nat) : Int)) (lcs d p but V j (u - i * (d.lo (V - (j + 1))).toNat))) (kx d p but (V - (j + 1)) u)
theorem OB_mnf {b : Int} {f : Nat → Option Int} : ∀ {K : Nat}, (∀ i, i ≤ K → OB b (f i)) → OB b (mnf f K)
  | 0, h => h 0 (Nat.le_refl _)
  | K + 1, h => OB_omin (OB_mnf (fun i hi => h i (by omega))) (h (K + 1) (Nat.le_refl _))
theorem OB_oadd {a b c : Int} {o : Option Int} (h1 : -a ≤ c) (h2 : c ≤ a) (h : OB b o) : OB (a + b) (oadd c o) := by
  cases o with
  | none => intro x hx; cases hx
  | some y =>
    intro x hx
    have hx : some (c + y) = some x := hx
    have hx := Option.some.inj hx
    have := h y rfl
    omega
theorem OB_mono {a b : Int} {o : Option Int} (hab : a ≤ b) (h : OB a o) : OB b o := fun x hx => by
  have := h x hx
  omega
theorem kx_le {d : MD} {V v u : Nat} {p but : Int} (hd : MDok d V) (hv : v < V) : kx d p but v u * (d.lo v).toNat ≤ u := by
  obtain ⟨-, lb, -⟩ := hd.2 v hv
  unfold kx
  split
  · omega
  · have := (div_box (M := min u (dep d p v).toNat) (l := (d.lo v).toNat) (by omega)).1
    omega
theorem kx_whl {d : MD} {V v u : Nat} {p but : Int} (hd : MDok d V) (hv : v < V) : (if (v : Int) = but then 0 else whl d p v (u : Int)) = ((kx d p but v u * (d.lo v).toNat : Nat) : Int) := by
  obtain ⟨-, lb, -⟩ := hd.2 v hv
  obtain ⟨d1, d2⟩ := dep_bnd (p := p) hd hv
  unfold kx
  by_cases c : (v : Int) = but
  · rw [if_pos c, if_pos c, Nat.zero_mul]; rfl
  · rw [if_neg c, if_neg c]
    unfold whl
    obtain ⟨D, hD⟩ := Int.eq_ofNat_of_zero_le d1
    obtain ⟨L, hL⟩ := Int.eq_ofNat_of_zero_le (show 0 ≤ d.lo v by omega)
    rw [hD, hL]
    have e0 : (if (u : Int) ≤ (D : Int) then (u : Int) else (D : Int)) = ((min u D : Nat) : Int) := by
      split <;> omega
    rw [e0, Int.toNat_natCast, Int.toNat_natCast]
    have e := Nat.div_add_mod (min u D) L
    rw [Nat.mul_comm] at e
    have e2 : ((min u D : Nat) : Int) % (L : Int) = ((min u D % L : Nat) : Int) := rfl
    rw [e2]
    omega
theorem lcs_OB {d : MD} {V : Nat} {p but : Int} (hd : MDok d V) : ∀ (j u : Nat), j ≤ V → u ≤ 120 → OB (1100000 * (j : Int)) (lcs d p but V j u)
  | 0, u, _, _ => by
    intro x hx
    unfold lcs at hx
    split at hx
    · have := Option.some.inj hx
      omega
    · cases hx
  | j + 1, u, hj, hu => by
    unfold lcs
    refine OB_mnf (fun i hi => ?_)
    have hv : V - (j + 1) < V := by omega
    have k1 := kx_le (p := p) (but := but) (u := u) hd hv
    have k2 : i * (d.lo (V - (j + 1))).toNat ≤ kx d p but (V - (j + 1)) u * (d.lo (V - (j + 1))).toNat := Nat.mul_le_mul_right _ hi
    obtain ⟨c1, c2⟩ := cst_bnd (n := ((i * (d.lo (V - (j + 1))).toNat : Nat) : Int)) hd hv (by omega) (by omega)
    have ih := lcs_OB (p := p) (but := but) hd j (u - i * (d.lo (V - (j + 1))).toNat) (by omega) (by omega)
    exact OB_mono (by omega) (OB_oadd (a := 1100000) (by omega) (by omega) ih)
/-- one number of the reference's table -/
theorem r_lcs {σ : Wd} {V j u : Nat} {p but : Int} {d : MD} (h : RV σ V d) (hd : MDok d V) (hj : j + 1 ≤ V) (hp : R p) (hlim : σ.1 102 12 = I p) (hb : R but) (hu : u ≤ 120)
    (hg : ∀ w, w ≤ 120 → σ.1 116 (121 * (V - j) + w) = I (enc 100000000 (lcs d p but V j w))) :
    f_X7_leastFrom (I ((V - (j + 1) : Nat) : Int)) (I (u : Int)) (I but) σ = some (I (enc 100000000 (lcs d p but V (j + 1) u)), σ) := by
  have hv : V - (j + 1) < V := by omega
  obtain ⟨-, lb, -⟩ := hd.2 _ hv
  have h5 := hd.1
  have k1 := kx_le (p := p) (but := but) (u := u) hd hv
  refine lc7_ok (K := kx d p but (V - (j + 1)) u) (l := (d.lo (V - (j + 1))).toNat) (g := fun i => lcs d p but V j (u - i * (d.lo (V - (j + 1))).toNat)) h hd hv hp hlim hb hu (by omega) k1 (kx_whl hd hv) (fun i hi => ?_) (fun i hi => ?_)
  · have k2 : i * (d.lo (V - (j + 1))).toNat ≤ kx d p but (V - (j + 1)) u * (d.lo (V - (j + 1))).toNat := Nat.mul_le_mul_right _ hi
    rw [show 121 * (V - (j + 1) + 1) + u - i * (d.lo (V - (j + 1))).toNat = 121 * (V - j) + (u - i * (d.lo (V - (j + 1))).toNat) from by omega]
    exact hg _ (by omega)
  · exact OB_mono (by omega) (lcs_OB hd j _ (by omega) (by omega))
theorem RV_congr {σ τ : Wd} {V : Nat} {d : MD} (h : RV σ V d) (e1 : τ.1 102 14 = σ.1 102 14) (e2 : τ.1 103 = σ.1 103) (e3 : τ.1 104 = σ.1 104) (e4 : τ.1 112 = σ.1 112) : RV τ V d := by
  unfold RV at h ⊢
  rw [e1, e2, e3, e4]
  exact h
/-- a row of the reference's table -/
theorem r_row {V j : Nat} {p but : Int} {d : MD} {x1 : Int32} {k46 : Int32 → Int32 → Int32 → Wd → Option (Int32 × Wd)} (hd : MDok d V) (hj : j + 1 ≤ V) (hp : R p) (hb : R but) :
    ∀ (r u n : Nat) (σ : Wd), r < n → u + r = 121 → RV σ V d → σ.1 102 12 = I p →
      (∀ w, w ≤ 120 → σ.1 116 (121 * (V - j) + w) = I (enc 100000000 (lcs d p but V j w))) →
      (∀ w, w < u → σ.1 116 (121 * (V - (j + 1)) + w) = I (enc 100000000 (lcs d p but V (j + 1) w))) →
      ∃ σ', f_X7_laysBest_53 k46 n x1 (I but) (I ((V - (j + 1) : Nat) : Int)) (I (u : Int)) σ = k46 x1 (I but) (I ((V - (j + 1) : Nat) : Int) + (-1 : Int32)) σ'
        ∧ (∀ k, k ≠ 116 → σ'.1 k = σ.1 k) ∧ σ'.2 = σ.2 ∧ (∀ i, 121 * (V - j) ≤ i → σ'.1 116 i = σ.1 116 i)
        ∧ (∀ w, w ≤ 120 → σ'.1 116 (121 * (V - (j + 1)) + w) = I (enc 100000000 (lcs d p but V (j + 1) w)))
  | 0, u, n + 1, σ, _, hu, h, hlim, hg, hw => by
    have hu : u = 121 := by omega
    subst hu
    refine ⟨σ, ?_, fun _ _ => rfl, rfl, fun _ _ => rfl, fun w hw2 => hw w (by omega)⟩
    rw [f_X7_laysBest_53]
    dsimp only
    rw [if_pos (by decide)]
  | r + 1, u, n + 1, σ, hn, hu, h, hlim, hg, hw => by
    have h5 := hd.1
    have b1 : ¬ (120 : Int32) < I (u : Int) := by
      show ¬ I 120 < I (u : Int)
      rw [I_lt (by unfold R; omega) (by unfold R; omega)]; omega
    have x1' : (121 : Int32) * I ((V - (j + 1) : Nat) : Int) + I (u : Int) = I ((121 * (V - (j + 1)) + u : Nat) : Int) := by
      rw [show (121 : Int32) = I 121 from rfl, I_mul, I_add]
      congr 1
    have a1 := inI (n := 121 * (V - (j + 1)) + u) (N := 726) (by omega) (by omega)
    have a2 := ixI (n := 121 * (V - (j + 1)) + u) (by omega)
    have e := r_lcs h hd hj hp hlim hb (show u ≤ 120 by omega) hg
    obtain ⟨σ', q1, q2, q3, q4, q5⟩ := r_row (x1 := x1) (k46 := k46) hd hj hp hb r (u + 1) n (wi σ 116 (121 * (V - (j + 1)) + u) (I (enc 100000000 (lcs d p but V (j + 1) u)))) (by omega) (by omega)
      (RV_congr h (by rw [wi_row (by decide)]) (wi_row (by decide)) (wi_row (by decide)) (wi_row (by decide))) (by rw [wi_row (by decide)]; exact hlim)
      (fun w hw2 => by rw [wi_ne (by omega)]; exact hg w hw2)
      (fun w hw2 => by
        by_cases c : w = u
        · subst c; rw [wi_eq]
        · rw [wi_ne (by omega)]; exact hw w (by omega))
    refine ⟨σ', ?_, fun k hk => by rw [q2 k hk, wi_row hk], q3, fun i hi => by rw [q4 i hi, wi_ne (by omega)], q5⟩
    rw [← q1, f_X7_laysBest_53]
    dsimp only
    rw [if_neg b1]
    simp only [e, bd_s, x1', a1, a2, I1]
    rfl
end
section
/-! PURE: the reference's table of least costs -/
theorem r_init {V : Nat} {p but : Int} {d : MD} {x1 x2 : Int32} (hV : V ≤ 5) :
    ∀ (r u n : Nat) (σ : Wd), r < n → u + r = 121 → σ.1 102 14 = I (V : Int) →
      (∀ w, w < u → σ.1 116 (121 * V + w) = I (enc 100000000 (lcs d p but V 0 w))) →
      ∃ σ', f_X7_laysBest_2 n x1 x2 (I (u : Int)) σ = f_X7_laysBest_46 FU x1 x2 (I ((V : Int) - 1)) σ'
        ∧ (∀ k, k ≠ 116 → σ'.1 k = σ.1 k) ∧ σ'.2 = σ.2
        ∧ (∀ w, w ≤ 120 → σ'.1 116 (121 * V + w) = I (enc 100000000 (lcs d p but V 0 w)))
  | 0, u, n + 1, σ, _, hu, h, hw => by
    have hu : u = 121 := by omega
    subst hu
    refine ⟨σ, ?_, fun _ _ => rfl, rfl, fun w hw2 => hw w (by omega)⟩
    rw [f_X7_laysBest_2]
    dsimp only
    rw [if_pos (by decide), h]
    rw [show (1 : Int32) = I 1 from rfl, I_sub]
  | r + 1, u, n + 1, σ, hn, hu, h, hw => by
    have b1 : ¬ (120 : Int32) < I (u : Int) := by
      show ¬ I 120 < I (u : Int)
      rw [I_lt (by unfold R; omega) (by unfold R; omega)]; omega
    have b2 : (I (u : Int) = (0 : Int32)) ↔ u = 0 := by
      show (I (u : Int) = I 0) ↔ u = 0
      rw [I_eq (by unfold R; omega) (by unfold R; omega)]; omega
    have x1' : (121 : Int32) * I (V : Int) + I (u : Int) = I ((121 * V + u : Nat) : Int) := by
      rw [show (121 : Int32) = I 121 from rfl, I_mul, I_add]
      congr 1
    have a1 := inI (n := 121 * V + u) (N := 726) (by omega) (by omega)
    have a2 := ixI (n := 121 * V + u) (by omega)
    obtain ⟨σ', q1, q2, q3, q4⟩ := r_init (p := p) (but := but) (d := d) (x1 := x1) (x2 := x2) hV r (u + 1) n (wi σ 116 (121 * V + u) (I (enc 100000000 (lcs d p but V 0 u)))) (by omega) (by omega)
      (by rw [wi_row (by decide)]; exact h)
      (fun w hw2 => by
        by_cases c : w = u
        · subst c; rw [wi_eq]
        · rw [wi_ne (by omega)]; exact hw w (by omega))
    refine ⟨σ', ?_, fun k hk => by rw [q2 k hk, wi_row hk], q3, q4⟩
    rw [← q1, f_X7_laysBest_2]
    dsimp only
    rw [if_neg b1]
    simp only [h, x1', f_X7_laysBest_32, a1, a2, I1, b2]
    by_cases c : u = 0
    · rw [if_pos c]
      rw [show lcs d p but V 0 u = some 0 from by unfold lcs; rw [if_pos c]]
      rfl
    · rw [if_neg c]
      rw [show lcs d p but V 0 u = none from by unfold lcs; rw [if_neg c]]
      rfl
/-- all rows -/
theorem r_rows {V : Nat} {p but : Int} {d : MD} {x1 : Int32} (hd : MDok d V) (hp : R p) (hb : R but) :
    ∀ (r j n : Nat) (σ : Wd), r < n → j + r = V → RV σ V d → σ.1 102 12 = I p →
      (∀ i, i ≤ j → ∀ w, w ≤ 120 → σ.1 116 (121 * (V - i) + w) = I (enc 100000000 (lcs d p but V i w))) →
      ∃ σ', f_X7_laysBest_46 n x1 (I but) (I ((V : Int) - (j : Int) - 1)) σ = f_X7_laysBest_97 FU (I but) (wi σ' 102 37 x1)
        ∧ (∀ k, k ≠ 116 → σ'.1 k = σ.1 k) ∧ σ'.2 = σ.2
        ∧ (∀ i, i ≤ V → ∀ w, w ≤ 120 → σ'.1 116 (121 * (V - i) + w) = I (enc 100000000 (lcs d p but V i w)))
  | 0, j, n + 1, σ, _, hj, h, hlim, hg => by
    have hj : j = V := by omega
    subst hj
    refine ⟨σ, ?_, fun _ _ => rfl, rfl, hg⟩
    rw [f_X7_laysBest_46]
    dsimp only
    rw [show ((j : Int) - (j : Int) - 1) = -1 from by omega]
    rw [if_pos (by decide)]
    rfl
  | r + 1, j, n + 1, σ, hn, hj, h, hlim, hg => by
    have h5 := hd.1
    have b1 : ¬ I ((V : Int) - (j : Int) - 1) < 0 := by
      show ¬ I ((V : Int) - (j : Int) - 1) < I 0
      rw [I_lt (by unfold R; omega) (by unfold R; omega)]; omega
    obtain ⟨τ, t1, t2, t3, t4, t5⟩ := r_row (x1 := x1) (k46 := f_X7_laysBest_46 n) hd (show j + 1 ≤ V by omega) hp hb 121 0 FU σ (by show _ < 6000; omega) (by omega) h hlim (hg j (Nat.le_refl _)) (fun w hw => absurd hw (by omega))
    obtain ⟨σ', q1, q2, q3, q4⟩ := r_rows (x1 := x1) hd hp hb r (j + 1) n τ (by omega) (by omega)
      (RV_congr h (by rw [t2 102 (by decide)]) (t2 103 (by decide)) (t2 104 (by decide)) (t2 112 (by decide))) (by rw [t2 102 (by decide)]; exact hlim)
      (fun i hi w hw => by
        by_cases c : i = j + 1
        · subst c; exact t5 w hw
        · rw [t4 _ (by omega)]
          exact hg i (by omega) w hw)
    refine ⟨σ', ?_, fun k hk => by rw [q2 k hk, t2 k hk], by rw [q3, t3], q4⟩
    rw [← q1, f_X7_laysBest_46]
    dsimp only
    rw [if_neg b1]
    rw [show I ((V : Int) - (j : Int) - 1) = I ((V - (j + 1) : Nat) : Int) from by congr 1; omega]
    rw [show (0 : Int32) = I ((0 : Nat) : Int) from rfl, t1]
    rw [show (-1 : Int32) = I (-1) from rfl, I_add]
    congr 2
    omega
end
section
/-! PURE: the most units, at most u, that a split can buy -/
def bu (f : Nat → Option Int) : Nat → Nat
  | 0 => 0
  | u + 1 => if f (u + 1) = none then bu f u else u + 1
theorem bu_le {f : Nat → Option Int} : ∀ u, bu f u ≤ u
  | 0 => Nat.le_refl _
  | u + 1 => by
    unfold bu
    split
    · have := bu_le (f := f) u
      omega
    · exact Nat.le_refl _
theorem bu_some {f : Nat → Option Int} (h : f 0 ≠ none) : ∀ u, f (bu f u) ≠ none
  | 0 => h
  | u + 1 => by
    unfold bu
    split
    · exact bu_some h u
    · assumption
theorem lcs_0 {d : MD} {V : Nat} {p but : Int} : ∀ j, lcs d p but V j 0 = some 0
  | 0 => rfl
  | j + 1 => by
    have k : kx d p but (V - (j + 1)) 0 = 0 := by
      unfold kx
      split
      · rfl
      · rw [show min 0 (dep d p (V - (j + 1))).toNat = 0 from by omega, Nat.zero_div]
    unfold lcs
    rw [k]
    show oadd (cst d (V - (j + 1)) ((0 * (d.lo (V - (j + 1))).toNat : Nat) : Int)) (lcs d p but V j (0 - 0 * (d.lo (V - (j + 1))).toNat)) = some 0
    rw [Nat.zero_mul, show (0 - 0 : Nat) = 0 from rfl, lcs_0 j, show (((0 : Nat) : Int)) = 0 from rfl, cst_0]
    rfl
theorem r_best {V : Nat} {p but : Int} {d : MD} {x2 : Int32} (hd : MDok d V) :
    ∀ (u n : Nat) (σ : Wd), u < n → u ≤ 120 → σ.1 102 37 = I (u : Int) →
      (∀ w, w ≤ 120 → σ.1 116 w = I (enc 100000000 (lcs d p but V V w))) →
      ∃ τ, f_X7_laysBest_97 n x2 σ = bd (f_X7_laysShares x2 τ) (fun _ σ2 => some (0, σ2))
        ∧ τ.1 102 37 = I (bu (lcs d p but V V) u : Int) ∧ τ.1 102 38 = I (enc 100000000 (lcs d p but V V (bu (lcs d p but V V) u)))
        ∧ (∀ k, k ≠ 102 → τ.1 k = σ.1 k) ∧ (∀ i, i ≠ 37 → i ≠ 38 → τ.1 102 i = σ.1 102 i) ∧ τ.2 = σ.2
  | u, 0, _, hn, _, _, _ => absurd hn (by omega)
  | u, n + 1, σ, hn, hu, hs, hg => by
    have a1 := inI (n := u) (N := 726) (by omega) (by omega)
    have a2 := ixI (n := u) (by omega)
    have ob := lcs_OB (p := p) (but := but) hd V u (Nat.le_refl _) hu
    have h5 := hd.1
    cases hl : lcs d p but V V u with
    | some y =>
      have yb := ob y hl
      have bu' : bu (lcs d p but V V) u = u := by
        cases u with
        | zero => rfl
        | succ u =>
          unfold bu
          rw [if_neg (by rw [hl]; exact fun h => by cases h)]
      have b1 : I (enc 100000000 (some y)) < (50000000 : Int32) := by
        show I y < I 50000000
        rw [I_lt (by unfold R; omega) (by unfold R; omega)]; omega
      refine ⟨wi σ 102 38 (I (enc 100000000 (some y))), ?_, ?_, ?_, fun k hk => wi_row hk, fun i h1 h2 => wi_ne h2, rfl⟩
      · rw [f_X7_laysBest_97]
        dsimp only
        simp only [hs, a1, a2, hg u hu, hl]
        rw [if_pos b1]
        rfl
      · rw [wi_ne (by decide), bu']; exact hs
      · rw [wi_eq, bu', hl]
    | none =>
      have b1 : ¬ I (enc 100000000 none) < (50000000 : Int32) := by
        show ¬ I 100000000 < I 50000000
        rw [I_lt (by unfold R; omega) (by unfold R; omega)]; omega
      cases u with
      | zero => rw [lcs_0] at hl; cases hl
      | succ u =>
        have bu' : bu (lcs d p but V V) (u + 1) = bu (lcs d p but V V) u := by
          rw [bu, if_pos hl]
        have e : I ((u + 1 : Nat) : Int) - (1 : Int32) = I (u : Int) := by
          rw [show (1 : Int32) = I 1 from rfl, I_sub]
          congr 1
          omega
        obtain ⟨τ, q1, q2, q3, q4, q5, q6⟩ := r_best (x2 := x2) (p := p) (but := but) hd u n (wi σ 102 37 (I (u : Int))) (by omega) (by omega) wi_eq (fun w hw => by rw [wi_row (by decide)]; exact hg w hw)
        refine ⟨τ, ?_, by rw [bu']; exact q2, by rw [bu']; exact q3, fun k hk => by rw [q4 k hk, wi_row hk], fun i h1 h2 => by rw [q5 i h1 h2, wi_ne h1], q6⟩
        rw [← q1, f_X7_laysBest_97]
        dsimp only
        simp only [hs, a1, a2, hg (u + 1) hu, hl, e]
        rw [if_neg b1]
        rfl
end
section
/-! PURE: the shares of the best split: each the largest that attains the least cost -/
def lst (f : Nat → Option Int) (t : Option Int) : Nat → Nat
  | 0 => 0
  | K + 1 => if f (K + 1) = t then K + 1 else lst f t K
theorem lst_le {f : Nat → Option Int} {t : Option Int} : ∀ K, lst f t K ≤ K
  | 0 => Nat.le_refl _
  | K + 1 => by
    unfold lst
    split
    · exact Nat.le_refl _
    · have := lst_le (f := f) (t := t) K
      omega
theorem lst_at {f : Nat → Option Int} {t : Option Int} : ∀ K, (∃ a, a ≤ K ∧ f a = t) → f (lst f t K) = t
  | 0, ⟨a, h1, h2⟩ => by
    have : a = 0 := by omega
    subst this
    exact h2
  | K + 1, ⟨a, h1, h2⟩ => by
    unfold lst
    by_cases c : f (K + 1) = t
    · rw [if_pos c]; exact c
    · rw [if_neg c]
      refine lst_at K ⟨a, ?_, h2⟩
      by_cases e : a = K + 1
      · subst e; exact absurd h2 c
      · omega
set_option maxHeartbeats 1000000 in
theorem r_share {σ : Wd} {V v u l K : Nat} {d : MD} {y : Int} {g : Nat → Option Int} {x1 : Int32} {k7 : Int32 → Int32 → Int32 → Wd → Option (Int32 × Wd)} (h : RV σ V d) (hd : MDok d V) (hv : v < V) (hu : u ≤ 120) (hl : d.lo v = (l : Int)) (hK : K * l ≤ u)
    (hg : ∀ i, i ≤ K → σ.1 116 (121 * (v + 1) + u - i * l) = I (enc 100000000 (g i))) (hgb : ∀ i, i ≤ K → OB 10000000 (g i))
    (ht : σ.1 116 (121 * v + u) = I y) (hy : -20000000 ≤ y ∧ y ≤ 20000000) :
    ∀ (i n : Nat), i < n → i ≤ K → (∃ a, a ≤ i ∧ oadd (cst d v ((a * l : Nat) : Int)) (g a) = some y) →
      f_X7_laysShares_24 k7 n x1 (I (u : Int)) (I (v : Int)) (I ((i * l : Nat) : Int)) σ
        = k7 x1 (I ((u - lst (fun a => oadd (cst d v ((a * l : Nat) : Int)) (g a)) (some y) i * l : Nat) : Int)) (I ((v + 1 : Nat) : Int)) (wi σ 117 v (I ((lst (fun a => oadd (cst d v ((a * l : Nat) : Int)) (g a)) (some y) i * l : Nat) : Int)))
  | i, 0, hn, _, _ => absurd hn (by omega)
  | i, n + 1, hn, hi, hex => by
    have v5 : v < 5 := Nat.lt_of_lt_of_le hv hd.1
    obtain ⟨-, lb, -⟩ := hd.2 v hv
    have m1 : i * l ≤ K * l := Nat.mul_le_mul_right l hi
    obtain ⟨c1, c2⟩ := cst_bnd (n := ((i * l : Nat) : Int)) hd hv (by omega) (by omega)
    have x1' : ((121 : Int32) * (I (v : Int) + (1 : Int32)) + I (u : Int)) - I ((i * l : Nat) : Int) = I ((121 * (v + 1) + u - i * l : Nat) : Int) := by
      rw [show (1 : Int32) = I 1 from rfl, show (121 : Int32) = I 121 from rfl, I_add, I_mul, I_add, I_sub]
      congr 1
      omega
    have x2' : (121 : Int32) * I (v : Int) + I (u : Int) = I ((121 * v + u : Nat) : Int) := by
      rw [show (121 : Int32) = I 121 from rfl, I_mul, I_add]
      congr 1
    have x3' : I (u : Int) - I ((i * l : Nat) : Int) = I ((u - i * l : Nat) : Int) := by
      rw [I_sub]
      congr 1
      omega
    have a1 := inI (n := 121 * (v + 1) + u - i * l) (N := 726) (by omega) (by omega)
    have a2 := ixI (n := 121 * (v + 1) + u - i * l) (by omega)
    have a3 := inI (n := 121 * v + u) (N := 726) (by omega) (by omega)
    have a4 := ixI (n := 121 * v + u) (by omega)
    have a5 := inI (n := v) (N := 5) v5 (by omega)
    have a6 := ixI (n := v) (by omega)
    -- where this one does not attain it
    have down : oadd (cst d v ((i * l : Nat) : Int)) (g i) ≠ some y →
        f_X7_laysShares_84 k7 (f_X7_laysShares_24 k7 n) x1 (I (u : Int)) (I (v : Int)) (I ((i * l : Nat) : Int)) σ
          = k7 x1 (I ((u - lst (fun a => oadd (cst d v ((a * l : Nat) : Int)) (g a)) (some y) i * l : Nat) : Int)) (I ((v + 1 : Nat) : Int)) (wi σ 117 v (I ((lst (fun a => oadd (cst d v ((a * l : Nat) : Int)) (g a)) (some y) i * l : Nat) : Int))) := by
      intro hne
      obtain ⟨a, h1, h2⟩ := hex
      have hai : a ≠ i := fun e => hne (e ▸ h2)
      match i, hn, hi, hne, h1, hai with
      | 0, _, _, _, h1, hai => exact absurd h1 (by omega)
      | i + 1, hn, hi, hne, h1, hai =>
        unfold f_X7_laysShares_84
        rw [rLot h hd hv, bd_s, hl, I_sub]
        rw [show ((((i + 1) * l : Nat) : Int) - (l : Int)) = ((i * l : Nat) : Int) from by rw [Nat.succ_mul]; omega]
        rw [r_share h hd hv hu hl hK hg hgb ht hy i n (by omega) (by omega) ⟨a, by omega, h2⟩]
        rw [show lst (fun a => oadd (cst d v ((a * l : Nat) : Int)) (g a)) (some y) (i + 1) = lst (fun a => oadd (cst d v ((a * l : Nat) : Int)) (g a)) (some y) i from by rw [lst, if_neg hne]]
    have gb := hgb i hi
    rw [f_X7_laysShares_24]
    dsimp only
    simp only [x1', x2', x3', a1, a2, a3, a4, a5, a6, hg i hi, ht, rCost h hd hv (n := ((i * l : Nat) : Int)) (by omega) (by omega), bd_s]
    cases hgi : g i with
    | none =>
      have b1 : (50000000 : Int32) ≤ I (enc 100000000 none) := by
        show I 50000000 ≤ I 100000000
        rw [I_le (by unfold R; omega) (by unfold R; omega)]; omega
      rw [if_pos b1]
      exact down (by rw [hgi]; exact fun h => by cases h)
    | some z =>
      have zb := gb z hgi
      have b1 : ¬ (50000000 : Int32) ≤ I (enc 100000000 (some z)) := by
        show ¬ I 50000000 ≤ I z
        rw [I_le (by unfold R; omega) (by unfold R; omega)]; omega
      have sm : I (cst d v ((i * l : Nat) : Int)) + I (enc 100000000 (some z)) = I (cst d v ((i * l : Nat) : Int) + z) := I_add _ _
      have b2 : (I (cst d v ((i * l : Nat) : Int) + z) = I y) ↔ cst d v ((i * l : Nat) : Int) + z = y := I_eq (by unfold R; omega) (by unfold R; omega)
      rw [if_neg b1]
      simp only [sm, b2]
      show (if cst d v ((i * l : Nat) : Int) + z = y then _ else _) = _
      by_cases c : cst d v ((i * l : Nat) : Int) + z = y
      · rw [if_pos c]
        have e : lst (fun a => oadd (cst d v ((a * l : Nat) : Int)) (g a)) (some y) i = i := by
          cases i with
          | zero => rfl
          | succ i =>
            rw [lst, if_pos]
            show oadd _ (g (i + 1)) = some y
            rw [hgi, ← c]
            rfl
        rw [e, ← I1]
        rfl
      · rw [if_neg c]
        refine down ?_
        rw [hgi]
        intro q
        exact c (Option.some.inj q)
end
section
/-! PURE: the shares of all venues, as the reference lays them -/
/-- what the last j venues give of u units: the first of them, by lots -/
def sh1 (d : MD) (p but : Int) (V j u : Nat) : Nat := lst (fun i => oadd (cst d (V - (j + 1)) ((i * (d.lo (V - (j + 1))).toNat : Nat) : Int)) (lcs d p but V j (u - i * (d.lo (V - (j + 1))).toNat))) (lcs d p but V (j + 1) u) (kx d p but (V - (j + 1)) u) * (d.lo (V - (j + 1))).toNat
def shs (d : MD) (p but : Int) (V : Nat) : Nat → Nat → Nat → Nat
  | 0, _, _ => 0
  | j + 1, u, v => if v = V - (j + 1) then sh1 d p but V j u else shs d p but V j (u - sh1 d p but V j u) v
theorem r_shares {V : Nat} {p but : Int} {d : MD} (hd : MDok d V) (hp : R p) (hb : R but) :
    ∀ (j n u : Nat) (σ : Wd), j < n → j ≤ V → u ≤ 120 → lcs d p but V j u ≠ none → RV σ V d → σ.1 102 12 = I p →
      (∀ i, i ≤ V → ∀ w, w ≤ 120 → σ.1 116 (121 * (V - i) + w) = I (enc 100000000 (lcs d p but V i w))) →
      ∃ σ', f_X7_laysShares_7 n (I but) (I (u : Int)) (I ((V - j : Nat) : Int)) σ = some (0, σ')
        ∧ (∀ k, k ≠ 117 → σ'.1 k = σ.1 k) ∧ σ'.2 = σ.2
        ∧ (∀ v, V - j ≤ v → v < V → σ'.1 117 v = I (shs d p but V j u v : Int)) ∧ (∀ v, v < V - j → σ'.1 117 v = σ.1 117 v)
  | 0, n + 1, u, σ, hn, hj, hu, hs, h, hlim, hg => by
    have h5 := hd.1
    refine ⟨σ, ?_, fun _ _ => rfl, rfl, fun v h1 h2 => absurd h2 (by omega), fun _ _ => rfl⟩
    have b1 : I (V : Int) ≤ I ((V - 0 : Nat) : Int) := by
      rw [I_le (by unfold R; omega) (by unfold R; omega)]; omega
    rw [f_X7_laysShares_7]
    dsimp only
    rw [h.1, if_pos b1]
  | j + 1, n + 1, u, σ, hn, hj, hu, hs, h, hlim, hg => by
    have h5 := hd.1
    have hv : V - (j + 1) < V := by omega
    obtain ⟨-, lb, -⟩ := hd.2 _ hv
    have k1 := kx_le (p := p) (but := but) (u := u) hd hv
    have kK : kx d p but (V - (j + 1)) u ≤ kx d p but (V - (j + 1)) u * (d.lo (V - (j + 1))).toNat := Nat.le_mul_of_pos_right _ (by omega)
    have b1 : ¬ I (V : Int) ≤ I ((V - (j + 1) : Nat) : Int) := by
      rw [I_le (by unfold R; omega) (by unfold R; omega)]; omega
    obtain ⟨y, hy⟩ := Option.ne_none_iff_exists'.mp hs
    have yb := lcs_OB (p := p) (but := but) hd (j + 1) u hj hu y hy
    have at1 := mnf_at (show mnf _ _ = some y from hy)
    have hl1 := lst_le (f := fun i => oadd (cst d (V - (j + 1)) ((i * (d.lo (V - (j + 1))).toNat : Nat) : Int)) (lcs d p but V j (u - i * (d.lo (V - (j + 1))).toNat))) (t := some y) (kx d p but (V - (j + 1)) u)
    have hl2 := lst_at _ at1
    have es : sh1 d p but V j u = lst (fun i => oadd (cst d (V - (j + 1)) ((i * (d.lo (V - (j + 1))).toNat : Nat) : Int)) (lcs d p but V j (u - i * (d.lo (V - (j + 1))).toNat))) (some y) (kx d p but (V - (j + 1)) u) * (d.lo (V - (j + 1))).toNat := by
      unfold sh1; rw [hy]
    have sn : lcs d p but V j (u - sh1 d p but V j u) ≠ none := by
      intro q
      rw [es] at q
      rw [q] at hl2
      cases hl2
    obtain ⟨σ', q1, q2, q3, q4, q5⟩ := r_shares hd hp hb j n (u - sh1 d p but V j u) (wi σ 117 (V - (j + 1)) (I (sh1 d p but V j u : Int))) (by omega) (by omega) (by omega) sn
      (RV_congr h (by rw [wi_row (by decide)]) (wi_row (by decide)) (wi_row (by decide)) (wi_row (by decide))) (by rw [wi_row (by decide)]; exact hlim)
      (fun i hi w hw => by rw [wi_row (by decide)]; exact hg i hi w hw)
    refine ⟨σ', ?_, fun k hk => by rw [q2 k hk, wi_row hk], q3, fun v h1 h2 => ?_, fun v h1 => by rw [q5 v (by omega), wi_ne (by omega)]⟩
    · rw [← q1, f_X7_laysShares_7]
      dsimp only
      rw [h.1, if_neg b1, rMost h hd hv hp hlim (q := (u : Int)) (by omega) (by omega) hb, bd_s, kx_whl hd hv]
      have e0 := r_share (K := kx d p but (V - (j + 1)) u) (l := (d.lo (V - (j + 1))).toNat) (y := y) (x1 := I but) (k7 := f_X7_laysShares_7 n) (g := fun i => lcs d p but V j (u - i * (d.lo (V - (j + 1))).toNat)) h hd hv hu (by omega) k1
        (fun i hi => by
          have k2 : i * (d.lo (V - (j + 1))).toNat ≤ kx d p but (V - (j + 1)) u * (d.lo (V - (j + 1))).toNat := Nat.mul_le_mul_right _ hi
          rw [show 121 * (V - (j + 1) + 1) + u - i * (d.lo (V - (j + 1))).toNat = 121 * (V - j) + (u - i * (d.lo (V - (j + 1))).toNat) from by omega]
          exact hg j (by omega) _ (by omega))
        (fun i hi => OB_mono (by omega) (lcs_OB hd j _ (by omega) (by omega)))
        (by rw [hg (j + 1) hj u hu, hy]; rfl) (by omega) (kx d p but (V - (j + 1)) u) FU (by show _ < 6000; omega) (Nat.le_refl _) at1
      rw [e0, es, show V - (j + 1) + 1 = V - j from by omega]
    · unfold shs
      by_cases c : v = V - (j + 1)
      · rw [if_pos c, c, q5 _ (by omega), wi_eq]
      · rw [if_neg c]
        exact q4 v (by omega) h2
end
section
/-! PURE: how a step of a function is computed: numerals as I, comparisons by whole numbers -/
theorem N0 : (0 : Int32) = I 0 := rfl
theorem N1 : (1 : Int32) = I 1 := rfl
theorem N2 : (2 : Int32) = I 2 := rfl
theorem N3 : (3 : Int32) = I 3 := rfl
theorem N4 : (4 : Int32) = I 4 := rfl
theorem N5 : (5 : Int32) = I 5 := rfl
theorem N6 : (6 : Int32) = I 6 := rfl
theorem N7 : (7 : Int32) = I 7 := rfl
theorem N8 : (8 : Int32) = I 8 := rfl
theorem N9 : (9 : Int32) = I 9 := rfl
theorem N10 : (10 : Int32) = I 10 := rfl
theorem N11 : (11 : Int32) = I 11 := rfl
theorem N12 : (12 : Int32) = I 12 := rfl
theorem N13 : (13 : Int32) = I 13 := rfl
theorem N14 : (14 : Int32) = I 14 := rfl
theorem N15 : (15 : Int32) = I 15 := rfl
theorem N16 : (16 : Int32) = I 16 := rfl
theorem N17 : (17 : Int32) = I 17 := rfl
theorem N18 : (18 : Int32) = I 18 := rfl
theorem N19 : (19 : Int32) = I 19 := rfl
theorem N20 : (20 : Int32) = I 20 := rfl
theorem N21 : (21 : Int32) = I 21 := rfl
theorem N22 : (22 : Int32) = I 22 := rfl
theorem N23 : (23 : Int32) = I 23 := rfl
theorem N24 : (24 : Int32) = I 24 := rfl
theorem N25 : (25 : Int32) = I 25 := rfl
theorem N26 : (26 : Int32) = I 26 := rfl
theorem N27 : (27 : Int32) = I 27 := rfl
theorem N28 : (28 : Int32) = I 28 := rfl
theorem N29 : (29 : Int32) = I 29 := rfl
theorem N30 : (30 : Int32) = I 30 := rfl
theorem N31 : (31 : Int32) = I 31 := rfl
theorem N32 : (32 : Int32) = I 32 := rfl
theorem N33 : (33 : Int32) = I 33 := rfl
theorem N34 : (34 : Int32) = I 34 := rfl
theorem N35 : (35 : Int32) = I 35 := rfl
theorem N36 : (36 : Int32) = I 36 := rfl
theorem N37 : (37 : Int32) = I 37 := rfl
theorem N38 : (38 : Int32) = I 38 := rfl
theorem N39 : (39 : Int32) = I 39 := rfl
theorem N40 : (40 : Int32) = I 40 := rfl
theorem N41 : (41 : Int32) = I 41 := rfl
theorem N42 : (42 : Int32) = I 42 := rfl
theorem N43 : (43 : Int32) = I 43 := rfl
theorem N45 : (45 : Int32) = I 45 := rfl
theorem N48 : (48 : Int32) = I 48 := rfl
theorem N57 : (57 : Int32) = I 57 := rfl
theorem N59 : (59 : Int32) = I 59 := rfl
theorem N88 : (88 : Int32) = I 88 := rfl
theorem N89 : (89 : Int32) = I 89 := rfl
theorem N97 : (97 : Int32) = I 97 := rfl
theorem N99 : (99 : Int32) = I 99 := rfl
theorem N120 : (120 : Int32) = I 120 := rfl
theorem N121 : (121 : Int32) = I 121 := rfl
theorem N122 : (122 : Int32) = I 122 := rfl
theorem N179 : (179 : Int32) = I 179 := rfl
theorem N200 : (200 : Int32) = I 200 := rfl
theorem N255 : (255 : Int32) = I 255 := rfl
theorem N300 : (300 : Int32) = I 300 := rfl
theorem N400 : (400 : Int32) = I 400 := rfl
theorem N880 : (880 : Int32) = I 880 := rfl
theorem N900 : (900 : Int32) = I 900 := rfl
theorem N999 : (999 : Int32) = I 999 := rfl
theorem N1019 : (1019 : Int32) = I 1019 := rfl
theorem N50000000 : (50000000 : Int32) = I 50000000 := rfl
theorem N100000000 : (100000000 : Int32) = I 100000000 := rfl
theorem N1000000000 : (1000000000 : Int32) = I 1000000000 := rfl
theorem N2147483647 : (2147483647 : Int32) = I 2147483647 := rfl
theorem N2147483648 : (2147483648 : Int32) = I 2147483648 := rfl
theorem gd_t (e : Option (Int32 × Wd)) : gd true e = e := rfl
theorem nm_W (σ : Wd) (f : Wd → Option (Int32 × Wd)) : nmW σ f = f σ := rfl
theorem nm_I (x : Int32) (f : Int32 → Option (Int32 × Wd)) : nmI x f = f x := rfl
theorem I_le_t {a b : Int} (h1 : -2147483648 ≤ a) (h2 : a ≤ b) (h3 : b < 2147483648) : (I a ≤ I b) = True := by
  rw [I_le (by unfold R; omega) (by unfold R; omega)]
  exact eq_true h2
theorem I_le_f {a b : Int} (h1 : -2147483648 ≤ b) (h2 : b < a) (h3 : a < 2147483648) : (I a ≤ I b) = False := by
  rw [I_le (by unfold R; omega) (by unfold R; omega)]
  exact eq_false (by omega)
theorem I_lt_t {a b : Int} (h1 : -2147483648 ≤ a) (h2 : a < b) (h3 : b < 2147483648) : (I a < I b) = True := by
  rw [I_lt (by unfold R; omega) (by unfold R; omega)]
  exact eq_true h2
theorem I_lt_f {a b : Int} (h1 : -2147483648 ≤ b) (h2 : b ≤ a) (h3 : a < 2147483648) : (I a < I b) = False := by
  rw [I_lt (by unfold R; omega) (by unfold R; omega)]
  exact eq_false (by omega)
theorem I_eq_t {a b : Int} (h : a = b) : (I a = I b) = True := eq_true (by rw [h])
theorem I_eq_f {a b : Int} (h1 : -2147483648 ≤ a) (h2 : a < 2147483648) (h3 : -2147483648 ≤ b) (h4 : b < 2147483648) (h : ¬ a = b) : (I a = I b) = False := by
  rw [I_eq (by unfold R; omega) (by unfold R; omega)]
  exact eq_false h
theorem I_inb' {z : Int} {n : Nat} (h : 0 ≤ z) (h2 : z < (n : Int)) (hn : n < 2147483648) : inb (I z) n = true := I_inb h h2 hn
theorem I_ix' {z : Int} (h : 0 ≤ z) (h2 : z < 2147483648) : ix (I z) = z.toNat := I_ix h h2
theorem wi_eq' {σ : Wd} {k j i : Nat} {x : Int32} (h : i = j) : (wi σ k j x).1 k i = x := by rw [h]; exact wi_eq
/-- the most units that a row has, as the class looks for them -/
theorem mostU {σ : Wd} {q0 l0 : Nat} {f : Nat → Option Int} (h1 : 120 < l0) (h2 : l0 < 1000) : ∀ (u n : Nat) (z : Int), z = u → u < n → u ≤ 120 →
    (∀ w, w ≤ u → σ.1 q0 w = I (enc 1000000000 (f w)) ∧ OB 900000000 (f w)) → f_X1_mostUnits_2 q0 l0 n (I z) σ = some (I (bu f u : Int), σ)
  | 0, n + 1, z, hz, hn, hu, h => by
    rw [f_X1_mostUnits_2]
    simp (disch := omega) only [↓reduceIte, gd_t, bd_s, nm_W, nm_I, I_add, I_sub, I_mul, I_neg, I_le_t, I_le_f, I_lt_t, I_lt_f, I_eq_t, I_eq_f, I_inb', I_ix', Int.toNat_natCast, decide_true, decide_false, Bool.not_false, Bool.not_true, if_true, if_false, wi_eq, wi_eq', wi_ne, wi_row, wi_2, N0, N1, N2, N3, N4, N5, N6, N7, N8, N9, N10, N11, N12, N13, N14, N15, N16, N17, N18, N19, N20, N21, N22, N23, N24, N25, N26, N27, N28, N29, N30, N31, N32, N33, N34, N35, N36, N37, N38, N39, N40, N41, N42, N43, N45, N48, N57, N59, N88, N89, N97, N99, N120, N121, N122, N179, N200, N255, N300, N400, N880, N900, N999, N1019, N50000000, N100000000, N1000000000, N2147483647, N2147483648]
    rfl
  | u + 1, n + 1, z, hz, hn, hu, h => by
    have tz : z.toNat = u + 1 := by omega
    obtain ⟨e1, e2⟩ := h (u + 1) (Nat.le_refl _)
    rw [f_X1_mostUnits_2]
    cases hf : f (u + 1) with
    | none =>
      rw [hf] at e1
      simp (disch := omega) only [↓reduceIte, gd_t, bd_s, nm_W, nm_I, I_add, I_sub, I_mul, I_neg, I_le_t, I_le_f, I_lt_t, I_lt_f, I_eq_t, I_eq_f, I_inb', I_ix', Int.toNat_natCast, decide_true, decide_false, Bool.not_false, Bool.not_true, if_true, if_false, wi_eq, wi_eq', wi_ne, wi_row, wi_2, N0, N1, N2, N3, N4, N5, N6, N7, N8, N9, N10, N11, N12, N13, N14, N15, N16, N17, N18, N19, N20, N21, N22, N23, N24, N25, N26, N27, N28, N29, N30, N31, N32, N33, N34, N35, N36, N37, N38, N39, N40, N41, N42, N43, N45, N48, N57, N59, N88, N89, N97, N99, N120, N121, N122, N179, N200, N255, N300, N400, N880, N900, N999, N1019, N50000000, N100000000, N1000000000, N2147483647, N2147483648, tz, e1, enc]
      rw [bu, if_pos hf]
      exact mostU h1 h2 u n _ (by omega) (by omega) (by omega) (fun w hw => h w (by omega))
    | some y =>
      have yb := e2 y hf
      rw [hf] at e1
      simp (disch := omega) only [↓reduceIte, gd_t, bd_s, nm_W, nm_I, I_add, I_sub, I_mul, I_neg, I_le_t, I_le_f, I_lt_t, I_lt_f, I_eq_t, I_eq_f, I_inb', I_ix', Int.toNat_natCast, decide_true, decide_false, Bool.not_false, Bool.not_true, if_true, if_false, wi_eq, wi_eq', wi_ne, wi_row, wi_2, N0, N1, N2, N3, N4, N5, N6, N7, N8, N9, N10, N11, N12, N13, N14, N15, N16, N17, N18, N19, N20, N21, N22, N23, N24, N25, N26, N27, N28, N29, N30, N31, N32, N33, N34, N35, N36, N37, N38, N39, N40, N41, N42, N43, N45, N48, N57, N59, N88, N89, N97, N99, N120, N121, N122, N179, N200, N255, N300, N400, N880, N900, N999, N1019, N50000000, N100000000, N1000000000, N2147483647, N2147483648, tz, e1, enc]
      rw [bu, if_neg (by rw [hf]; exact fun h => by cases h), hz]
end
