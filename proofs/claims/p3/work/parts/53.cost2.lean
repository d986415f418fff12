theorem chg7 {σ : Wd} {v : Nat} {n kind fee least : Int} (hv : v < 5) (hk : σ.1 103 (5 * v) = I kind) (hf : σ.1 112 (30 + v) = I fee) (hl : σ.1 103 (5 * v + 2) = I least) (k0 : 0 ≤ kind) (k2 : kind ≤ 2) (f1 : -9 ≤ fee) (f2 : fee ≤ 9) (l1 : 0 ≤ least) (l2 : least ≤ 300) (n1 : 0 ≤ n) (n2 : n ≤ 1000) :
    f_X7_chargeOf (I (v : Int)) (I n) σ = some (I (chg kind fee least n), σ) := by
  have e0 : (0 : Int32) = I 0 := rfl
  have e20 : (20 : Int32) = I 20 := rfl
  have t0 : f_X7_told (I (v : Int)) 0 σ = some (I kind, σ) := by
    rw [show (0 : Int32) = I ((0 : Nat) : Int) from rfl, told7 0 hv (by decide), Nat.add_zero, hk]
  have t2 : f_X7_told (I (v : Int)) 2 σ = some (I least, σ) := by
    rw [show (2 : Int32) = I ((2 : Nat) : Int) from rfl, told7 2 hv (by decide), hl]
  have i30 : (30 : Int32) + I (v : Int) = I ((30 + v : Nat) : Int) := by
    rw [show (30 : Int32) = I 30 from rfl, I_add]
    congr 1
  have hi : inb (I ((30 + v : Nat) : Int)) 179 = true := inI (by omega) (by decide)
  have hx : ix (I ((30 + v : Nat) : Int)) = 30 + v := ixI (by omega)
  have b1 : (I n = 0) ↔ n = 0 := by rw [e0]; exact I_eq (by unfold R; omega) (by unfold R; omega)
  have b2 : (I kind = 2) ↔ kind = 2 := by rw [show (2 : Int32) = I 2 from rfl]; exact I_eq (by unfold R; omega) (by unfold R; omega)
  have b3 : (I kind = 1) ↔ kind = 1 := by rw [show (1 : Int32) = I 1 from rfl]; exact I_eq (by unfold R; omega) (by unfold R; omega)
  have b4 : (I n ≤ 20) ↔ n ≤ 20 := by rw [e20]; exact I_le (by unfold R; omega) (by unfold R; omega)
  have b5 : (I fee < 0) ↔ fee < 0 := by rw [e0]; exact I_lt (by unfold R; omega) (by unfold R; omega)
  have c71 : ∀ s : Int, -100000 ≤ s → s ≤ 100000 → f_X7_chargeOf_71 (I (v : Int)) (I fee) (I s) σ = some (I (if 0 ≤ fee ∧ s < least then least else s), σ) := by
    intro s s1 s2
    have b6 : (I least ≤ I s) ↔ least ≤ s := I_le (by unfold R; omega) (by unfold R; omega)
    unfold f_X7_chargeOf_71 f_X7_chargeOf_95 f_X7_chargeOf_97
    simp only [t2, bd_s, b5, b6]
    by_cases c1 : fee < 0
    · have c2 : ¬ (0 ≤ fee ∧ s < least) := by omega
      rw [if_pos c1, if_neg c2]
    · rw [if_neg c1]
      by_cases c2 : least ≤ s
      · have c3 : ¬ (0 ≤ fee ∧ s < least) := by omega
        rw [if_pos c2, if_neg c3]
      · have c3 : 0 ≤ fee ∧ s < least := by omega
        rw [if_neg c2, if_pos c3]
  have g1 := fee_mul (n := n) f1 f2 (by omega) n2
  unfold f_X7_chargeOf chg
  simp only [t0, t2, bd_s, gd, hi, hx, i30, hf, b1, b2, b3, b4, half_low f1 f2, e20, I_mul, I_sub, I_add]
  by_cases c1 : n = 0
  · have c1' : n ≤ 0 := by omega
    rw [if_pos c1, if_pos c1']
    rfl
  · have c1' : ¬ n ≤ 0 := by omega
    rw [if_neg c1, if_neg c1']
    by_cases c2 : kind = 2
    · rw [if_pos c2, if_pos c2]
    · rw [if_neg c2, if_neg c2]
      by_cases c3 : kind = 1
      · rw [if_pos c3]
        by_cases c4 : n ≤ 20
        · have c5 : ¬ (kind = 1 ∧ 20 < n) := by omega
          have c4' : I n ≤ I 20 := b4.mpr c4
          rw [if_pos c4', c71 _ (by omega) (by omega), if_neg c5]
        · have c5 : kind = 1 ∧ 20 < n := by omega
          have c4' : ¬ I n ≤ I 20 := fun h => c4 (b4.mp h)
          have g2 : -9000 ≤ fee / 2 * (n - 20) ∧ fee / 2 * (n - 20) ≤ 9000 := fee_mul (by omega) (by omega) (by omega) (by omega)
          rw [if_neg c4', c71 _ (by omega) (by omega), if_pos c5]
      · have c5 : ¬ (kind = 1 ∧ 20 < n) := by omega
        rw [if_neg c3, c71 _ (by omega) (by omega), if_neg c5]
/-- n units by their prices, of the levels k .. k + r - 1 -/
def pz (pr sz : Nat → Int) : Nat → Nat → Int → Int
  | 0, _, _ => 0
  | r + 1, k, n => if n ≤ 0 then 0 else (if n ≤ sz k then n else sz k) * pr k + pz pr sz r (k + 1) (n - (if n ≤ sz k then n else sz k))
/-- sizes and prices of the levels k .. k + r - 1 are what they may be -/
def lvOk (pr sz : Nat → Int) (r k : Nat) : Prop := ∀ i, k ≤ i → i < k + r → 0 ≤ sz i ∧ sz i ≤ 99 ∧ 1 ≤ pr i ∧ pr i ≤ 999
theorem ps3 {σ : Wd} {m v lev : Nat} (hv : v < 5) (hl : σ.1 (m + 6) v = I (lev : Int)) (hl6 : lev ≤ 6) (hk : lvOk (T (σ.1 (m + 8))) (T (σ.1 (m + 9))) lev (6 * v)) : ∀ (r k n : Nat) (acc left : Int), r < n → k + r = lev → -1000 ≤ left → left ≤ 1000 →
    f_X3_costOf_20 m n (I (v : Int)) (I acc) (I left) (I ((6 * v : Nat) : Int)) (I ((6 * v + k : Nat) : Int)) σ = some (I (acc + pz (T (σ.1 (m + 8))) (T (σ.1 (m + 9))) r (6 * v + k) left), σ) := by
  intro r
  induction r with
  | zero =>
    intro k n acc left hn hkr q1 q2
    obtain ⟨n, rfl⟩ : ∃ q, n = q + 1 := ⟨n - 1, by omega⟩
    rw [f_X3_costOf_20]
    have h1 : I ((6 * v : Nat) : Int) + I (lev : Int) ≤ I ((6 * v + k : Nat) : Int) := by
      rw [I_add, I_le (by unfold R; omega) (by unfold R; omega)]
      omega
    simp only [inI (show v < 5 from hv) (by decide), gd, ixI (show v < 2147483648 by omega), hl, if_pos h1, f_X3_costOf_91, pz, Int.add_zero]
  | succ r ih =>
    intro k n acc left hn hkr q1 q2
    obtain ⟨n, rfl⟩ : ∃ q, n = q + 1 := ⟨n - 1, by omega⟩
    rw [f_X3_costOf_20]
    have h1 : ¬ I ((6 * v : Nat) : Int) + I (lev : Int) ≤ I ((6 * v + k : Nat) : Int) := by
      rw [I_add, I_le (by unfold R; omega) (by unfold R; omega)]
      omega
    have h2 : I ((6 * v + k : Nat) : Int) + 1 = I ((6 * v + (k + 1) : Nat) : Int) := by
      rw [show (1 : Int32) = I 1 from rfl, I_add]
      congr 1 <;> omega
    have h3 : inb (I ((6 * v + k : Nat) : Int)) 30 = true := inI (by omega) (by decide)
    have h4 : ix (I ((6 * v + k : Nat) : Int)) = 6 * v + k := ixI (by omega)
    obtain ⟨s1, s2, p1, p2⟩ := hk (6 * v + k) (by omega) (by omega)
    have b1 : (I left ≤ 0) ↔ left ≤ 0 := by rw [show (0 : Int32) = I 0 from rfl]; exact I_le (by unfold R; omega) (by unfold R; omega)
    have b2 : (I left ≤ σ.1 (m + 9) (6 * v + k)) ↔ left ≤ T (σ.1 (m + 9)) (6 * v + k) := by
      rw [rdI (σ.1 (m + 9)) (6 * v + k)]
      exact I_le (by unfold R; omega) (RT _ _)
    have key : ∀ t : Int, -1000 ≤ left - t → left - t ≤ 1000 → f_X3_costOf_63 m (f_X3_costOf_20 m n) (I (v : Int)) (I acc) (I left) (I ((6 * v : Nat) : Int)) (I ((6 * v + k : Nat) : Int)) (I t) σ = some (I (acc + (t * T (σ.1 (m + 8)) (6 * v + k) + pz (T (σ.1 (m + 8))) (T (σ.1 (m + 9))) r (6 * v + k + 1) (left - t))), σ) := by
      intro t t1 t2
      unfold f_X3_costOf_63
      simp only [h3, gd, h4, h2, I_sub]
      rw [rdI (σ.1 (m + 8)) (6 * v + k), I_mul, I_add, ih (k + 1) n _ _ (by omega) (by omega) t1 t2, Int.add_assoc]
      rfl
    simp only [inI (show v < 5 from hv) (by decide), gd, ixI (show v < 2147483648 by omega), hl, if_neg h1, b1, h3, h4, b2, pz]
    by_cases c1 : left ≤ 0
    · rw [if_pos c1, if_pos c1, f_X3_costOf_91, Int.add_zero]
    · rw [if_neg c1, if_neg c1]
      by_cases c2 : left ≤ T (σ.1 (m + 9)) (6 * v + k)
      · rw [if_pos c2, if_pos c2]
        exact key left (by omega) (by omega)
      · rw [if_neg c2, if_neg c2, rdI (σ.1 (m + 9)) (6 * v + k)]
        exact key _ (by omega) (by omega)
theorem cost3 {σ : Wd} {m v lev : Nat} {n kind fee least : Int} (hv : v < 5) (hl : σ.1 (m + 6) v = I (lev : Int)) (hl6 : lev ≤ 6) (hk9 : lvOk (T (σ.1 (m + 8))) (T (σ.1 (m + 9))) lev (6 * v)) (hk : σ.1 (m + 1) v = I kind) (hf : σ.1 (m + 3) v = I fee) (hle : σ.1 (m + 4) v = I least) (k0 : 0 ≤ kind) (k2 : kind ≤ 2) (f1 : -9 ≤ fee) (f2 : fee ≤ 9) (l1 : 0 ≤ least) (l2 : least ≤ 300) (n1 : -1000 ≤ n) (n2 : n ≤ 1000) :
    f_X3_costOf m (I (v : Int)) (I n) σ = some (I (chg kind fee least n + pz (T (σ.1 (m + 8))) (T (σ.1 (m + 9))) lev (6 * v) n), σ) := by
  unfold f_X3_costOf
  have h1 : I (v : Int) * 6 = I ((6 * v : Nat) : Int) := by
    rw [show (6 : Int32) = I 6 from rfl, I_mul]
    congr 1 <;> omega
  rw [chg3 hv hk hf hle k0 k2 f1 f2 l1 l2 n1 n2, bd_s, h1]
  exact ps3 hv hl hl6 hk9 lev 0 FU _ n (by unfold FU; omega) (by omega) n1 n2
theorem ps7 {σ : Wd} {v lev : Nat} (hv : v < 5) (hl : σ.1 103 (5 * v + 4) = I (lev : Int)) (hl6 : lev ≤ 6) (hk : lvOk (T (σ.1 104)) (T (σ.1 112)) lev (6 * v)) : ∀ (r k n : Nat) (acc left : Int), r < n → k + r = lev → -1000 ≤ left → left ≤ 1000 →
    f_X7_pricesOf_8 n (I (v : Int)) (I left) (I acc) (I (k : Int)) σ = some (I (acc + pz (T (σ.1 104)) (T (σ.1 112)) r (6 * v + k) left), σ) := by
  intro r
  induction r with
  | zero =>
    intro k n acc left hn hkr q1 q2
    obtain ⟨n, rfl⟩ : ∃ q, n = q + 1 := ⟨n - 1, by omega⟩
    rw [f_X7_pricesOf_8]
    have h1 : I (lev : Int) ≤ I (k : Int) := by
      rw [I_le (by unfold R; omega) (by unfold R; omega)]
      omega
    simp only [levels7 hv, bd_s, hl, if_pos h1, f_X7_pricesOf_72, pz, Int.add_zero]
  | succ r ih =>
    intro k n acc left hn hkr q1 q2
    obtain ⟨n, rfl⟩ : ∃ q, n = q + 1 := ⟨n - 1, by omega⟩
    rw [f_X7_pricesOf_8]
    have h1 : ¬ I (lev : Int) ≤ I (k : Int) := by
      rw [I_le (by unfold R; omega) (by unfold R; omega)]
      omega
    obtain ⟨s1, s2, p1, p2⟩ := hk (6 * v + k) (by omega) (by omega)
    have b1 : (I left ≤ 0) ↔ left ≤ 0 := by rw [show (0 : Int32) = I 0 from rfl]; exact I_le (by unfold R; omega) (by unfold R; omega)
    have b2 : (σ.1 112 (6 * v + k) ≤ I left) ↔ T (σ.1 112) (6 * v + k) ≤ left := by
      rw [rdI (σ.1 112) (6 * v + k)]
      exact I_le (RT _ _) (by unfold R; omega)
    have key : ∀ t : Int, -1000 ≤ left - t → left - t ≤ 1000 → f_X7_pricesOf_44 (f_X7_pricesOf_8 n) (I (v : Int)) (I left) (I acc) (I (k : Int)) (I t) σ = some (I (acc + (t * T (σ.1 104) (6 * v + k) + pz (T (σ.1 104)) (T (σ.1 112)) r (6 * v + k + 1) (left - t))), σ) := by
      intro t t1 t2
      unfold f_X7_pricesOf_44
      simp only [price7 hv (show k < 6 by omega), bd_s, I1, I_sub]
      rw [rdI (σ.1 104) (6 * v + k), I_mul, I_add, ih (k + 1) n _ _ (by omega) (by omega) t1 t2, Int.add_assoc]
      rfl
    simp only [levels7 hv, bd_s, hl, if_neg h1, b1, size7 hv (show k < 6 by omega), b2, pz]
    by_cases c1 : left ≤ 0
    · rw [if_pos c1, if_pos c1, f_X7_pricesOf_72, Int.add_zero]
    · rw [if_neg c1, if_neg c1]
      by_cases c2 : T (σ.1 112) (6 * v + k) ≤ left
      · rw [if_pos c2, rdI (σ.1 112) (6 * v + k)]
        have c3 : (if left ≤ T (σ.1 112) (6 * v + k) then left else T (σ.1 112) (6 * v + k)) = T (σ.1 112) (6 * v + k) := by
          split <;> omega
        rw [c3]
        exact key _ (by omega) (by omega)
      · have c3 : left ≤ T (σ.1 112) (6 * v + k) := by omega
        rw [if_neg c2, if_pos c3]
        exact key left (by omega) (by omega)
theorem cost7 {σ : Wd} {v lev : Nat} {n kind fee least : Int} (hv : v < 5) (hl : σ.1 103 (5 * v + 4) = I (lev : Int)) (hl6 : lev ≤ 6) (hk9 : lvOk (T (σ.1 104)) (T (σ.1 112)) lev (6 * v)) (hk : σ.1 103 (5 * v) = I kind) (hf : σ.1 112 (30 + v) = I fee) (hle : σ.1 103 (5 * v + 2) = I least) (k0 : 0 ≤ kind) (k2 : kind ≤ 2) (f1 : -9 ≤ fee) (f2 : fee ≤ 9) (l1 : 0 ≤ least) (l2 : least ≤ 300) (n1 : 0 ≤ n) (n2 : n ≤ 1000) :
    f_X7_costOf (I (v : Int)) (I n) σ = some (I (chg kind fee least n + pz (T (σ.1 104)) (T (σ.1 112)) lev (6 * v) n), σ) := by
  unfold f_X7_costOf f_X7_pricesOf
  have h := ps7 hv hl hl6 hk9 lev 0 FU 0 n (by unfold FU; omega) (by omega) (by omega) n2
  rw [show f_X7_pricesOf_8 FU (I (v : Int)) (I n) 0 0 σ = _ from h, bd_s, chg7 hv hk hf hle k0 k2 f1 f2 l1 l2 n1 n2, bd_s, I_add, Int.zero_add, Int.add_comm]
  rfl
