/-! PURE: charge, cost, cap -/
def chg (kind fee least n : Int) : Int :=
  if n ≤ 0 then 0 else if kind = 2 then least else
    if 0 ≤ fee ∧ (if kind = 1 ∧ 20 < n then fee * 20 + fee / 2 * (n - 20) else fee * n) < least then least else (if kind = 1 ∧ 20 < n then fee * 20 + fee / 2 * (n - 20) else fee * n)
theorem half_shr {z : Int} (h1 : -9 ≤ z) (h2 : z ≤ 9) : I z >>> ((1 : Int32) &&& 31) = I (z / 2) := by
  have h : z = -9 ∨ z = -8 ∨ z = -7 ∨ z = -6 ∨ z = -5 ∨ z = -4 ∨ z = -3 ∨ z = -2 ∨ z = -1 ∨ z = 0 ∨ z = 1 ∨ z = 2 ∨ z = 3 ∨ z = 4 ∨ z = 5 ∨ z = 6 ∨ z = 7 ∨ z = 8 ∨ z = 9 := by omega
  rcases h with h | h | h | h | h | h | h | h | h | h | h | h | h | h | h | h | h | h | h <;> subst h <;> decide
theorem half_low {z : Int} {σ : Wd} (h1 : -9 ≤ z) (h2 : z ≤ 9) : f_X7_lower (I z) 2 σ = some (I (z / 2), σ) := by
  have h : z = -9 ∨ z = -8 ∨ z = -7 ∨ z = -6 ∨ z = -5 ∨ z = -4 ∨ z = -3 ∨ z = -2 ∨ z = -1 ∨ z = 0 ∨ z = 1 ∨ z = 2 ∨ z = 3 ∨ z = 4 ∨ z = 5 ∨ z = 6 ∨ z = 7 ∨ z = 8 ∨ z = 9 := by omega
  rcases h with h | h | h | h | h | h | h | h | h | h | h | h | h | h | h | h | h | h | h <;> subst h <;> rfl
theorem fee_cases {z : Int} (h1 : -9 ≤ z) (h2 : z ≤ 9) : z = -9 ∨ z = -8 ∨ z = -7 ∨ z = -6 ∨ z = -5 ∨ z = -4 ∨ z = -3 ∨ z = -2 ∨ z = -1 ∨ z = 0 ∨ z = 1 ∨ z = 2 ∨ z = 3 ∨ z = 4 ∨ z = 5 ∨ z = 6 ∨ z = 7 ∨ z = 8 ∨ z = 9 := by omega
theorem fee_mul {z n : Int} (h1 : -9 ≤ z) (h2 : z ≤ 9) (n1 : -1000 ≤ n) (n2 : n ≤ 1000) : -9000 ≤ z * n ∧ z * n ≤ 9000 := by
  rcases fee_cases h1 h2 with h | h | h | h | h | h | h | h | h | h | h | h | h | h | h | h | h | h | h <;> subst h <;> omega
theorem chg3 {σ : Wd} {m v : Nat} {n kind fee least : Int} (hv : v < 5) (hk : σ.1 (m + 1) v = I kind) (hf : σ.1 (m + 3) v = I fee) (hl : σ.1 (m + 4) v = I least) (k0 : 0 ≤ kind) (k2 : kind ≤ 2) (f1 : -9 ≤ fee) (f2 : fee ≤ 9) (l1 : 0 ≤ least) (l2 : least ≤ 300) (n1 : -1000 ≤ n) (n2 : n ≤ 1000) :
    f_X3_chargeOf m (I (v : Int)) (I n) σ = some (I (chg kind fee least n), σ) := by
  have e0 : (0 : Int32) = I 0 := rfl
  have e1 : (1 : Int32) = I 1 := rfl
  have e2 : (2 : Int32) = I 2 := rfl
  have e20 : (20 : Int32) = I 20 := rfl
  have hi : inb (I (v : Int)) 5 = true := inI hv (by decide)
  have hx : ix (I (v : Int)) = v := ixI (by omega)
  have b1 : (I 0 < I n) ↔ 0 < n := I_lt (by unfold R; omega) (by unfold R; omega)
  have b2 : (I kind = I 2) ↔ kind = 2 := I_eq (by unfold R; omega) (by unfold R; omega)
  have b3 : (I kind = I 1) ↔ kind = 1 := I_eq (by unfold R; omega) (by unfold R; omega)
  have b4 : (I n ≤ I 20) ↔ n ≤ 20 := I_le (by unfold R; omega) (by unfold R; omega)
  have b5 : (I fee < I 0) ↔ fee < 0 := I_lt (by unfold R; omega) (by unfold R; omega)
  have hs : I fee >>> (I 1 &&& 31) = I (fee / 2) := half_shr f1 f2
  have c72 : ∀ s : Int, -100000 ≤ s → s ≤ 100000 → f_X3_chargeOf_72 m (I (v : Int)) (I s) σ = some (I (if 0 ≤ fee ∧ s < least then least else s), σ) := by
    intro s s1 s2
    have b6 : (I least ≤ I s) ↔ least ≤ s := I_le (by unfold R; omega) (by unfold R; omega)
    unfold f_X3_chargeOf_72 f_X3_chargeOf_100 f_X3_chargeOf_101
    simp only [hi, hx, gd, hf, hl, e0, b5, b6]
    by_cases c1 : fee < 0
    · rw [if_pos c1, if_neg (by omega)]
    · rw [if_neg c1]
      by_cases c2 : least ≤ s
      · rw [if_pos c2, if_neg (by omega)]
      · rw [if_neg c2, if_pos (by omega)]
  have g1 := fee_mul f1 f2 n1 n2
  unfold f_X3_chargeOf chg
  simp only [hi, hx, gd, hk, hf, hl, e0, e1, e2, e20, b1, b2, b3, b4, hs, I_mul, I_sub, I_add]
  by_cases c1 : 0 < n
  · have c1' : ¬ n ≤ 0 := by omega
    rw [if_pos c1, if_neg c1']
    by_cases c2 : kind = 2
    · rw [if_pos c2, if_pos c2]
    · rw [if_neg c2, if_neg c2]
      by_cases c3 : kind = 1
      · rw [if_pos c3]
        by_cases c4 : n ≤ 20
        · have c5 : ¬ (kind = 1 ∧ 20 < n) := by omega
          rw [if_pos c4, c72 _ (by omega) (by omega), if_neg c5]
        · have c5 : kind = 1 ∧ 20 < n := by omega
          have g2 : -9000 ≤ fee / 2 * (n - 20) ∧ fee / 2 * (n - 20) ≤ 9000 := fee_mul (by omega) (by omega) (by omega) (by omega)
          rw [if_neg c4, c72 _ (by omega) (by omega), if_pos c5]
      · have c5 : ¬ (kind = 1 ∧ 20 < n) := by omega
        rw [if_neg c3, c72 _ (by omega) (by omega), if_neg c5]
  · have c1' : n ≤ 0 := by omega
    rw [if_neg c1, if_pos c1']
