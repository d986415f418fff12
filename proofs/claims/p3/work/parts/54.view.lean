/-! PURE: a market's numbers: kind, lot, fee, least, levels; prices and sizes by 6 v + k; and how class and reference hold them -/
abbrev MD : Type := ((Nat → Int) × (Nat → Int) × (Nat → Int) × (Nat → Int)) × (Nat → Nat) × (Nat → Int) × (Nat → Int)
abbrev MD.kd (d : MD) : Nat → Int := d.1.1
abbrev MD.lo (d : MD) : Nat → Int := d.1.2.1
abbrev MD.fe (d : MD) : Nat → Int := d.1.2.2.1
abbrev MD.le (d : MD) : Nat → Int := d.1.2.2.2
abbrev MD.lv (d : MD) : Nat → Nat := d.2.1
abbrev MD.pr (d : MD) : Nat → Int := d.2.2.1
abbrev MD.sz (d : MD) : Nat → Int := d.2.2.2
def MDok (d : MD) (V : Nat) : Prop := V ≤ 5 ∧ ∀ v, v < V → (0 ≤ d.kd v ∧ d.kd v ≤ 2) ∧ (1 ≤ d.lo v ∧ d.lo v ≤ 20) ∧ (-9 ≤ d.fe v ∧ d.fe v ≤ 9) ∧ (0 ≤ d.le v ∧ d.le v ≤ 300) ∧ d.lv v ≤ 6 ∧ lvOk d.pr d.sz (d.lv v) (6 * v)
/-- as the class holds it, at market m -/
def CV (m : Nat) (σ : Wd) (V : Nat) (d : MD) : Prop := σ.1 m 3 = I (V : Int) ∧ ∀ v, v < V → σ.1 (m + 1) v = I (d.kd v) ∧ σ.1 (m + 2) v = I (d.lo v) ∧ σ.1 (m + 3) v = I (d.fe v) ∧ σ.1 (m + 4) v = I (d.le v) ∧ σ.1 (m + 6) v = I (d.lv v : Int) ∧ ∀ k, k < d.lv v → σ.1 (m + 8) (6 * v + k) = I (d.pr (6 * v + k)) ∧ σ.1 (m + 9) (6 * v + k) = I (d.sz (6 * v + k))
/-- as the reference holds it -/
def RV (σ : Wd) (V : Nat) (d : MD) : Prop := σ.1 102 14 = I (V : Int) ∧ ∀ v, v < V → σ.1 103 (5 * v) = I (d.kd v) ∧ σ.1 103 (5 * v + 1) = I (d.lo v) ∧ σ.1 112 (30 + v) = I (d.fe v) ∧ σ.1 103 (5 * v + 2) = I (d.le v) ∧ σ.1 103 (5 * v + 4) = I (d.lv v : Int) ∧ ∀ k, k < d.lv v → σ.1 104 (6 * v + k) = I (d.pr (6 * v + k)) ∧ σ.1 112 (6 * v + k) = I (d.sz (6 * v + k))
theorem uz_congr {pr sz pr' sz' : Nat → Int} {p : Int} : ∀ (r k : Nat), (∀ i, k ≤ i → i < k + r → pr i = pr' i ∧ sz i = sz' i) → uz pr sz p r k = uz pr' sz' p r k
  | 0, _, _ => rfl
  | r + 1, k, h => by
    unfold uz
    rw [(h k (by omega) (by omega)).1, (h k (by omega) (by omega)).2, uz_congr r (k + 1) (fun i h1 h2 => h i (by omega) (by omega))]
theorem pz_congr {pr sz pr' sz' : Nat → Int} : ∀ (r k : Nat) (n : Int), (∀ i, k ≤ i → i < k + r → pr i = pr' i ∧ sz i = sz' i) → pz pr sz r k n = pz pr' sz' r k n
  | 0, _, _, _ => rfl
  | r + 1, k, n, h => by
    unfold pz
    rw [(h k (by omega) (by omega)).1, (h k (by omega) (by omega)).2, pz_congr r (k + 1) _ (fun i h1 h2 => h i (by omega) (by omega))]
theorem lvOk_congr {pr sz pr' sz' : Nat → Int} {r k : Nat} (h : ∀ i, k ≤ i → i < k + r → pr i = pr' i ∧ sz i = sz' i) (hk : lvOk pr' sz' r k) : lvOk pr sz r k := fun i h1 h2 => by
  rw [(h i h1 h2).1, (h i h1 h2).2]
  exact hk i h1 h2
theorem TI {f : Nat → Int32} {i : Nat} {z : Int} (h : f i = I z) (hz : R z) : T f i = z := by
  show (f i).toInt = z
  rw [h, I_toInt hz]
def dep (d : MD) (p : Int) (v : Nat) : Int := uz d.pr d.sz p (d.lv v) (6 * v)
def cst (d : MD) (v : Nat) (n : Int) : Int := chg (d.kd v) (d.fe v) (d.le v) n + pz d.pr d.sz (d.lv v) (6 * v) n
theorem cv_rng {m : Nat} {σ : Wd} {V v : Nat} {d : MD} (h : CV m σ V d) (hd : MDok d V) (hv : v < V) : ∀ i, 6 * v ≤ i → i < 6 * v + d.lv v → T (σ.1 (m + 8)) i = d.pr i ∧ T (σ.1 (m + 9)) i = d.sz i := by
  intro i h1 h2
  obtain ⟨k, rfl⟩ : ∃ k, i = 6 * v + k := ⟨i - 6 * v, by omega⟩
  obtain ⟨a, b⟩ := (h.2 v hv).2.2.2.2.2 k (by omega)
  obtain ⟨s1, s2, p1, p2⟩ := (hd.2 v hv).2.2.2.2.2 (6 * v + k) h1 h2
  exact ⟨TI a (by unfold R; omega), TI b (by unfold R; omega)⟩
theorem rv_rng {σ : Wd} {V v : Nat} {d : MD} (h : RV σ V d) (hd : MDok d V) (hv : v < V) : ∀ i, 6 * v ≤ i → i < 6 * v + d.lv v → T (σ.1 104) i = d.pr i ∧ T (σ.1 112) i = d.sz i := by
  intro i h1 h2
  obtain ⟨k, rfl⟩ : ∃ k, i = 6 * v + k := ⟨i - 6 * v, by omega⟩
  obtain ⟨a, b⟩ := (h.2 v hv).2.2.2.2.2 k (by omega)
  obtain ⟨s1, s2, p1, p2⟩ := (hd.2 v hv).2.2.2.2.2 (6 * v + k) h1 h2
  exact ⟨TI a (by unfold R; omega), TI b (by unfold R; omega)⟩
section VIEW
variable {m : Nat} {σ : Wd} {V v : Nat} {d : MD}
theorem cUnits (h : CV m σ V d) (hd : MDok d V) (hv : v < V) {p : Int} (hp : R p) : f_X3_unitsUpTo m (I (v : Int)) (I p) σ = some (I (dep d p v), σ) := by
  have h5 : v < 5 := Nat.lt_of_lt_of_le hv hd.1
  rw [uu3_ok h5 (h.2 v hv).2.2.2.2.1 (hd.2 v hv).2.2.2.2.1 hp, uz_congr _ _ (cv_rng h hd hv)]
  rfl
theorem rUnits (h : RV σ V d) (hd : MDok d V) (hv : v < V) {p : Int} (hp : R p) : f_X7_unitsTo (I (v : Int)) (I p) σ = some (I (dep d p v), σ) := by
  have h5 : v < 5 := Nat.lt_of_lt_of_le hv hd.1
  rw [uu7_ok h5 (h.2 v hv).2.2.2.2.1 (hd.2 v hv).2.2.2.2.1 hp, uz_congr _ _ (rv_rng h hd hv)]
  rfl
theorem cCharge (h : CV m σ V d) (hd : MDok d V) (hv : v < V) {n : Int} (n1 : -1000 ≤ n) (n2 : n ≤ 1000) : f_X3_chargeOf m (I (v : Int)) (I n) σ = some (I (chg (d.kd v) (d.fe v) (d.le v) n), σ) := by
  obtain ⟨a, b, c, e, f, g⟩ := hd.2 v hv
  exact chg3 (Nat.lt_of_lt_of_le hv hd.1) (h.2 v hv).1 (h.2 v hv).2.2.1 (h.2 v hv).2.2.2.1 a.1 a.2 c.1 c.2 e.1 e.2 n1 n2
theorem rCharge (h : RV σ V d) (hd : MDok d V) (hv : v < V) {n : Int} (n1 : 0 ≤ n) (n2 : n ≤ 1000) : f_X7_chargeOf (I (v : Int)) (I n) σ = some (I (chg (d.kd v) (d.fe v) (d.le v) n), σ) := by
  obtain ⟨a, b, c, e, f, g⟩ := hd.2 v hv
  exact chg7 (Nat.lt_of_lt_of_le hv hd.1) (h.2 v hv).1 (h.2 v hv).2.2.1 (h.2 v hv).2.2.2.1 a.1 a.2 c.1 c.2 e.1 e.2 n1 n2
theorem cCost (h : CV m σ V d) (hd : MDok d V) (hv : v < V) {n : Int} (n1 : -1000 ≤ n) (n2 : n ≤ 1000) : f_X3_costOf m (I (v : Int)) (I n) σ = some (I (cst d v n), σ) := by
  obtain ⟨a, b, c, e, f, g⟩ := hd.2 v hv
  rw [cost3 (Nat.lt_of_lt_of_le hv hd.1) (h.2 v hv).2.2.2.2.1 f (lvOk_congr (cv_rng h hd hv) g) (h.2 v hv).1 (h.2 v hv).2.2.1 (h.2 v hv).2.2.2.1 a.1 a.2 c.1 c.2 e.1 e.2 n1 n2, pz_congr _ _ _ (cv_rng h hd hv)]
  rfl
theorem rCost (h : RV σ V d) (hd : MDok d V) (hv : v < V) {n : Int} (n1 : 0 ≤ n) (n2 : n ≤ 1000) : f_X7_costOf (I (v : Int)) (I n) σ = some (I (cst d v n), σ) := by
  obtain ⟨a, b, c, e, f, g⟩ := hd.2 v hv
  rw [cost7 (Nat.lt_of_lt_of_le hv hd.1) (h.2 v hv).2.2.2.2.1 f (lvOk_congr (rv_rng h hd hv) g) (h.2 v hv).1 (h.2 v hv).2.2.1 (h.2 v hv).2.2.2.1 a.1 a.2 c.1 c.2 e.1 e.2 n1 n2, pz_congr _ _ _ (rv_rng h hd hv)]
  rfl
theorem cLot (h : CV m σ V d) (hd : MDok d V) (hv : v < V) : f_X3_lotOf m (I (v : Int)) σ = some (I (d.lo v), σ) := by
  have h5 : v < 5 := Nat.lt_of_lt_of_le hv hd.1
  obtain ⟨-, b, -⟩ := hd.2 v hv
  have e := (h.2 v hv).2.1
  have b1 : (I (d.lo v) ≤ 1) ↔ d.lo v ≤ 1 := by rw [show (1 : Int32) = I 1 from rfl]; exact I_le (by unfold R; omega) (by unfold R; omega)
  unfold f_X3_lotOf f_X3_lotOf_20
  simp only [inI (show v < 5 from h5) (by decide), gd, ixI (show v < 2147483648 by omega), e, b1]
  by_cases c : d.lo v ≤ 1
  · rw [if_pos c, show d.lo v = 1 by omega]; rfl
  · rw [if_neg c]
theorem rLot (h : RV σ V d) (hd : MDok d V) (hv : v < V) : f_X7_lot (I (v : Int)) σ = some (I (d.lo v), σ) := by
  rw [lot7 (Nat.lt_of_lt_of_le hv hd.1), (h.2 v hv).2.1]
end VIEW
