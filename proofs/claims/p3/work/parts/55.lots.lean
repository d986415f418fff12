/-! PURE: bounds of depth and cost; whole lots -/
theorem I_mod {a b : Int} (ha : R a) (hb : R b) (a0 : 0 ≤ a) (b0 : 0 < b) : I a % I b = I (a % b) := by
  rw [← I_of (I a % I b), Int32.toInt_mod, I_toInt ha, I_toInt hb, Int.tmod_eq_emod_of_nonneg a0]
theorem I_div {a b : Int} (ha : R a) (hb : R b) (a0 : 0 ≤ a) (b0 : 0 < b) : I a / I b = I (a / b) := by
  have hb1 : I b ≠ -1 := by
    intro h
    rw [show (-1 : Int32) = I (-1) from rfl, I_eq hb (by unfold R; omega)] at h
    omega
  rw [← I_of (I a / I b), Int32.toInt_div_of_ne_right _ _ hb1, I_toInt ha, I_toInt hb, Int.tdiv_eq_ediv_of_nonneg a0]
theorem uz_bnd {pr sz : Nat → Int} {p : Int} : ∀ (r k : Nat), lvOk pr sz r k → 0 ≤ uz pr sz p r k ∧ uz pr sz p r k ≤ 99 * (r : Int)
  | 0, _, _ => ⟨Int.le_refl 0, Int.le_refl 0⟩
  | r + 1, k, h => by
    obtain ⟨h1, h2⟩ := uz_bnd (pr := pr) (sz := sz) (p := p) r (k + 1) (fun i q1 q2 => h i (by omega) (by omega))
    obtain ⟨s1, s2, -⟩ := h k (by omega) (by omega)
    unfold uz
    split <;> constructor <;> omega
theorem pz_bnd {pr sz : Nat → Int} : ∀ (r k : Nat) (n : Int), lvOk pr sz r k → 0 ≤ n → 0 ≤ pz pr sz r k n ∧ pz pr sz r k n ≤ 999 * n
  | 0, _, n, _, hn => ⟨Int.le_refl 0, by show (0 : Int) ≤ 999 * n; omega⟩
  | r + 1, k, n, h, hn => by
    obtain ⟨s1, s2, p1, p2⟩ := h k (by omega) (by omega)
    unfold pz
    split
    · omega
    · have key : ∀ t : Int, 0 ≤ t → t ≤ n → 0 ≤ t * pr k + pz pr sz r (k + 1) (n - t) ∧ t * pr k + pz pr sz r (k + 1) (n - t) ≤ 999 * n := by
        intro t t1 t2
        obtain ⟨h1, h2⟩ := pz_bnd (pr := pr) (sz := sz) r (k + 1) (n - t) (fun i q1 q2 => h i (by omega) (by omega)) (by omega)
        have g1 : 0 ≤ t * pr k := Int.mul_nonneg t1 (by omega)
        have g2 : t * pr k ≤ t * 999 := Int.mul_le_mul_of_nonneg_left p2 t1
        omega
      split
      · exact key n hn (Int.le_refl n)
      · exact key (sz k) s1 (by omega)
theorem chg_bnd {kind fee least n : Int} (f1 : -9 ≤ fee) (f2 : fee ≤ 9) (l1 : 0 ≤ least) (l2 : least ≤ 300) (n1 : -1000 ≤ n) (n2 : n ≤ 1000) : -20000 ≤ chg kind fee least n ∧ chg kind fee least n ≤ 20000 := by
  have g1 := fee_mul (n := n) f1 f2 n1 n2
  unfold chg
  split
  · omega
  · split
    · omega
    · have g2 : -20000 ≤ (if kind = 1 ∧ 20 < n then fee * 20 + fee / 2 * (n - 20) else fee * n) ∧ (if kind = 1 ∧ 20 < n then fee * 20 + fee / 2 * (n - 20) else fee * n) ≤ 20000 := by
        split
        · have g3 : -9000 ≤ fee / 2 * (n - 20) ∧ fee / 2 * (n - 20) ≤ 9000 := fee_mul (by omega) (by omega) (by omega) (by omega)
          omega
        · omega
      split <;> omega
theorem dep_bnd {d : MD} {V v : Nat} {p : Int} (hd : MDok d V) (hv : v < V) : 0 ≤ dep d p v ∧ dep d p v ≤ 594 := by
  obtain ⟨-, -, -, -, f, g⟩ := hd.2 v hv
  obtain ⟨h1, h2⟩ := uz_bnd (p := p) (d.lv v) (6 * v) g
  unfold dep
  omega
theorem cst_bnd {d : MD} {V v : Nat} {n : Int} (hd : MDok d V) (hv : v < V) (n1 : 0 ≤ n) (n2 : n ≤ 1000) : -20000 ≤ cst d v n ∧ cst d v n ≤ 1019000 := by
  obtain ⟨a, b, c, e, f, g⟩ := hd.2 v hv
  have h1 := chg_bnd (kind := d.kd v) c.1 c.2 e.1 e.2 (show -1000 ≤ n by omega) n2
  have h2 := pz_bnd (d.lv v) (6 * v) n g n1
  unfold cst
  omega
theorem cst_0 {d : MD} {v : Nat} : cst d v 0 = 0 := by
  unfold cst
  have h : ∀ r k, pz d.pr d.sz r k 0 = 0 := by
    intro r k
    cases r with
    | zero => rfl
    | succ r => unfold pz; rw [if_pos (Int.le_refl 0)]
  rw [h]
  unfold chg
  rw [if_pos (Int.le_refl 0)]
  rfl
/-- the most units in whole lots, q at most -/
def whl (d : MD) (p : Int) (v : Nat) (q : Int) : Int := (if q ≤ dep d p v then q else dep d p v) - (if q ≤ dep d p v then q else dep d p v) % d.lo v
section LOTS
variable {m : Nat} {σ : Wd} {V v : Nat} {d : MD} {p : Int}
theorem cDepth (h : CV m σ V d) (hd : MDok d V) (hv : v < V) (hp : R p) (hl : σ.1 m 1 = I p) : f_X3_depthOf m (I (v : Int)) σ = some (I (dep d p v), σ) := by
  unfold f_X3_depthOf
  rw [hl, cUnits h hd hv hp]
  rfl
theorem rDepth (h : RV σ V d) (hd : MDok d V) (hv : v < V) (hp : R p) (hl : σ.1 102 12 = I p) : f_X7_depth (I (v : Int)) σ = some (I (dep d p v), σ) := by
  unfold f_X7_depth
  rw [hl, rUnits h hd hv hp]
  rfl
theorem cWhole (h : CV m σ V d) (hd : MDok d V) (hv : v < V) (hp : R p) (hl : σ.1 m 1 = I p) {q : Int} (q1 : 0 ≤ q) (q2 : q ≤ 1000) : f_X3_wholeLots m (I (v : Int)) (I q) σ = some (I (whl d p v q), σ) := by
  obtain ⟨d1, d2⟩ := dep_bnd (p := p) hd hv
  obtain ⟨-, b, -⟩ := hd.2 v hv
  have key : ∀ s : Int, 0 ≤ s → s ≤ 1000 → f_X3_wholeLots_20 m (I (v : Int)) (I s) σ = some (I (s - s % d.lo v), σ) := by
    intro s s1 s2
    have b1 : (!decide (I (d.lo v) = 0)) = true := by
      rw [show (0 : Int32) = I 0 from rfl]
      have : ¬ I (d.lo v) = I 0 := by rw [I_eq (by unfold R; omega) (by unfold R; omega)]; omega
      simp [this]
    unfold f_X3_wholeLots_20
    rw [cLot h hd hv, bd_s, b1, I_mod (by unfold R; omega) (by unfold R; omega) s1 (by omega), I_sub]
    rfl
  have b2 : (I q ≤ I (dep d p v)) ↔ q ≤ dep d p v := I_le (by unfold R; omega) (by unfold R; omega)
  unfold f_X3_wholeLots whl
  simp only [hl, cUnits h hd hv hp, bd_s, b2]
  by_cases c : q ≤ dep d p v
  · simp only [if_pos c]
    exact key q q1 q2
  · simp only [if_neg c]
    exact key _ d1 (by omega)
theorem rMost (h : RV σ V d) (hd : MDok d V) (hv : v < V) (hp : R p) (hl : σ.1 102 12 = I p) {q but : Int} (q1 : 0 ≤ q) (q2 : q ≤ 1000) (hb : R but) : f_X7_mostAt (I (v : Int)) (I q) (I but) σ = some (I (if (v : Int) = but then 0 else whl d p v q), σ) := by
  obtain ⟨d1, d2⟩ := dep_bnd (p := p) hd hv
  obtain ⟨-, b, -⟩ := hd.2 v hv
  have h5 : v < 5 := Nat.lt_of_lt_of_le hv hd.1
  have key : ∀ s : Int, 0 ≤ s → s ≤ 1000 → f_X7_mostAt_25 (I (v : Int)) (I s) σ = some (I (s - s % d.lo v), σ) := by
    intro s s1 s2
    have b1 : (!decide (I (d.lo v) = 0)) = true := by
      rw [show (0 : Int32) = I 0 from rfl]
      have : ¬ I (d.lo v) = I 0 := by rw [I_eq (by unfold R; omega) (by unfold R; omega)]; omega
      simp [this]
    unfold f_X7_mostAt_25
    rw [rLot h hd hv, bd_s, b1]
    show bd (f_X7_lot (I (v : Int)) σ) _ = _
    rw [rLot h hd hv, bd_s, I_div (by unfold R; omega) (by unfold R; omega) s1 (by omega), I_mul]
    have e := Int.mul_ediv_add_emod s (d.lo v)
    rw [show s / d.lo v * d.lo v = s - s % d.lo v from by rw [Int.mul_comm]; omega]
  have b2 : (I q ≤ I (dep d p v)) ↔ q ≤ dep d p v := I_le (by unfold R; omega) (by unfold R; omega)
  have b3 : (I (v : Int) = I but) ↔ (v : Int) = but := I_eq (by unfold R; omega) hb
  unfold f_X7_mostAt whl
  simp only [b3, rDepth h hd hv hp hl, bd_s, b2]
  by_cases c0 : (v : Int) = but
  · rw [if_pos c0, if_pos c0]; rfl
  · rw [if_neg c0, if_neg c0]
    by_cases c : q ≤ dep d p v
    · simp only [if_pos c]
      exact key q q1 q2
    · simp only [if_neg c]
      exact key _ d1 (by omega)
end LOTS
