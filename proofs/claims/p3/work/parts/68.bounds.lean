/-! PURE: bound and margin: units by what each costs at least -/
def lf (d : MD) (v : Nat) : Int := if d.kd v = 2 then 0 else if d.kd v = 1 ∧ d.fe v / 2 < d.fe v then d.fe v / 2 else d.fe v
theorem lf_bnd {d : MD} {V v : Nat} (hd : MDok d V) (hv : v < V) : -9 ≤ lf d v ∧ lf d v ≤ 9 := by
  obtain ⟨-, -, c, -⟩ := hd.2 v hv
  unfold lf
  split
  · omega
  · split <;> omega
theorem cLeastFee {m : Nat} {σ : Wd} {V v : Nat} {d : MD} (h : CV m σ V d) (hd : MDok d V) (hv : v < V) : f_X3_leastUnitFee m (I (v : Int)) σ = some (I (lf d v), σ) := by
  have v5 : v < 5 := Nat.lt_of_lt_of_le hv hd.1
  obtain ⟨a, b, c, -⟩ := hd.2 v hv
  have e1 := (h.2 v hv).1
  have e2 := (h.2 v hv).2.2.1
  have hs : I (d.fe v) >>> (I 1 &&& 31) = I (d.fe v / 2) := half_shr c.1 c.2
  rw [N31] at hs
  unfold f_X3_leastUnitFee
  by_cases c1 : d.kd v = 2
  · have el : lf d v = 0 := by unfold lf; rw [if_pos c1]
    rw [el]
    simp (disch := omega) only [gd_t, bd_s, nm_W, nm_I, I_add, I_sub, I_mul, I_neg, I_le_t, I_le_f, I_lt_t, I_lt_f, I_eq_t, I_eq_f, I_inb', I_ix', Int.toNat_natCast, decide_true, decide_false, Bool.not_false, Bool.not_true, if_true, if_false, wi_eq, wi_eq', wi_ne, wi_row, wi_2, N0, N1, N2, N3, N4, N5, N6, N7, N8, N9, N10, N11, N12, N13, N14, N15, N16, N17, N18, N19, N20, N21, N22, N23, N24, N25, N26, N27, N28, N29, N30, N31, N32, N33, N34, N35, N36, N37, N38, N39, N40, N41, N42, N43, N45, N48, N57, N59, N88, N89, N97, N99, N120, N121, N122, N179, N200, N255, N300, N400, N880, N900, N999, N1019, N50000000, N100000000, N1000000000, N2147483647, N2147483648, e1]
  · by_cases c2 : d.kd v = 1
    · by_cases c3 : d.fe v / 2 < d.fe v
      · have el : lf d v = d.fe v / 2 := by unfold lf; rw [if_neg c1, if_pos ⟨c2, c3⟩]
        rw [el]
        simp (disch := omega) only [gd_t, bd_s, nm_W, nm_I, I_add, I_sub, I_mul, I_neg, I_le_t, I_le_f, I_lt_t, I_lt_f, I_eq_t, I_eq_f, I_inb', I_ix', Int.toNat_natCast, decide_true, decide_false, Bool.not_false, Bool.not_true, if_true, if_false, wi_eq, wi_eq', wi_ne, wi_row, wi_2, N0, N1, N2, N3, N4, N5, N6, N7, N8, N9, N10, N11, N12, N13, N14, N15, N16, N17, N18, N19, N20, N21, N22, N23, N24, N25, N26, N27, N28, N29, N30, N31, N32, N33, N34, N35, N36, N37, N38, N39, N40, N41, N42, N43, N45, N48, N57, N59, N88, N89, N97, N99, N120, N121, N122, N179, N200, N255, N300, N400, N880, N900, N999, N1019, N50000000, N100000000, N1000000000, N2147483647, N2147483648, e1, e2, hs, f_X3_leastUnitFee_51]
      · have el : lf d v = d.fe v := by unfold lf; rw [if_neg c1, if_neg (fun q => c3 q.2)]
        rw [el]
        simp (disch := omega) only [gd_t, bd_s, nm_W, nm_I, I_add, I_sub, I_mul, I_neg, I_le_t, I_le_f, I_lt_t, I_lt_f, I_eq_t, I_eq_f, I_inb', I_ix', Int.toNat_natCast, decide_true, decide_false, Bool.not_false, Bool.not_true, if_true, if_false, wi_eq, wi_eq', wi_ne, wi_row, wi_2, N0, N1, N2, N3, N4, N5, N6, N7, N8, N9, N10, N11, N12, N13, N14, N15, N16, N17, N18, N19, N20, N21, N22, N23, N24, N25, N26, N27, N28, N29, N30, N31, N32, N33, N34, N35, N36, N37, N38, N39, N40, N41, N42, N43, N45, N48, N57, N59, N88, N89, N97, N99, N120, N121, N122, N179, N200, N255, N300, N400, N880, N900, N999, N1019, N50000000, N100000000, N1000000000, N2147483647, N2147483648, e1, e2, hs, f_X3_leastUnitFee_51, f_X3_leastUnitFee_45]
    · have el : lf d v = d.fe v := by unfold lf; rw [if_neg c1, if_neg (fun q => c2 q.1)]
      rw [el]
      simp (disch := omega) only [gd_t, bd_s, nm_W, nm_I, I_add, I_sub, I_mul, I_neg, I_le_t, I_le_f, I_lt_t, I_lt_f, I_eq_t, I_eq_f, I_inb', I_ix', Int.toNat_natCast, decide_true, decide_false, Bool.not_false, Bool.not_true, if_true, if_false, wi_eq, wi_eq', wi_ne, wi_row, wi_2, N0, N1, N2, N3, N4, N5, N6, N7, N8, N9, N10, N11, N12, N13, N14, N15, N16, N17, N18, N19, N20, N21, N22, N23, N24, N25, N26, N27, N28, N29, N30, N31, N32, N33, N34, N35, N36, N37, N38, N39, N40, N41, N42, N43, N45, N48, N57, N59, N88, N89, N97, N99, N120, N121, N122, N179, N200, N255, N300, N400, N880, N900, N999, N1019, N50000000, N100000000, N1000000000, N2147483647, N2147483648, e1, e2, f_X3_leastUnitFee_51, f_X3_leastUnitFee_45]
theorem rWorth {σ : Wd} {V v k : Nat} {d : MD} (h : RV σ V d) (hd : MDok d V) (hv : v < V) (hk : k < d.lv v) : f_X7_worthAt (I (v : Int)) (I (k : Int)) σ = some (I (d.pr (6 * v + k) + lf d v), σ) := by
  have v5 : v < 5 := Nat.lt_of_lt_of_le hv hd.1
  obtain ⟨a, b, c, e, f, g⟩ := hd.2 v hv
  have e1 := (h.2 v hv).1
  have e2 := (h.2 v hv).2.2.1
  have e3 := ((h.2 v hv).2.2.2.2.2 k hk).1
  have p7 := price7 (σ := σ) v5 (show k < 6 by omega)
  have t7 := told7 (σ := σ) 0 v5 (by decide)
  rw [show 5 * v + 0 = 5 * v from rfl, e1] at t7
  rw [show (I ((0 : Nat) : Int)) = I 0 from rfl] at t7
  rw [e3] at p7
  have lo := half_low (σ := σ) c.1 c.2
  rw [N2] at lo
  have t1 : ((30 : Int) + (v : Int)).toNat = 30 + v := by omega
  unfold f_X7_worthAt
  by_cases c1 : d.kd v = 2
  · have el : lf d v = 0 := by unfold lf; rw [if_pos c1]
    rw [el]
    simp (disch := omega) only [gd_t, bd_s, nm_W, nm_I, I_add, I_sub, I_mul, I_neg, I_le_t, I_le_f, I_lt_t, I_lt_f, I_eq_t, I_eq_f, I_inb', I_ix', Int.toNat_natCast, decide_true, decide_false, Bool.not_false, Bool.not_true, if_true, if_false, wi_eq, wi_eq', wi_ne, wi_row, wi_2, N0, N1, N2, N3, N4, N5, N6, N7, N8, N9, N10, N11, N12, N13, N14, N15, N16, N17, N18, N19, N20, N21, N22, N23, N24, N25, N26, N27, N28, N29, N30, N31, N32, N33, N34, N35, N36, N37, N38, N39, N40, N41, N42, N43, N45, N48, N57, N59, N88, N89, N97, N99, N120, N121, N122, N179, N200, N255, N300, N400, N880, N900, N999, N1019, N50000000, N100000000, N1000000000, N2147483647, N2147483648, t7, p7, f_X7_worthAt_52, t1, e2]
  · by_cases c2 : d.kd v = 1
    · by_cases c3 : d.fe v / 2 < d.fe v
      · have el : lf d v = d.fe v / 2 := by unfold lf; rw [if_neg c1, if_pos ⟨c2, c3⟩]
        rw [el]
        simp (disch := omega) only [gd_t, bd_s, nm_W, nm_I, I_add, I_sub, I_mul, I_neg, I_le_t, I_le_f, I_lt_t, I_lt_f, I_eq_t, I_eq_f, I_inb', I_ix', Int.toNat_natCast, decide_true, decide_false, Bool.not_false, Bool.not_true, if_true, if_false, wi_eq, wi_eq', wi_ne, wi_row, wi_2, N0, N1, N2, N3, N4, N5, N6, N7, N8, N9, N10, N11, N12, N13, N14, N15, N16, N17, N18, N19, N20, N21, N22, N23, N24, N25, N26, N27, N28, N29, N30, N31, N32, N33, N34, N35, N36, N37, N38, N39, N40, N41, N42, N43, N45, N48, N57, N59, N88, N89, N97, N99, N120, N121, N122, N179, N200, N255, N300, N400, N880, N900, N999, N1019, N50000000, N100000000, N1000000000, N2147483647, N2147483648, t7, p7, f_X7_worthAt_52, t1, e2, lo]
      · have el : lf d v = d.fe v := by unfold lf; rw [if_neg c1, if_neg (fun q => c3 q.2)]
        rw [el]
        simp (disch := omega) only [gd_t, bd_s, nm_W, nm_I, I_add, I_sub, I_mul, I_neg, I_le_t, I_le_f, I_lt_t, I_lt_f, I_eq_t, I_eq_f, I_inb', I_ix', Int.toNat_natCast, decide_true, decide_false, Bool.not_false, Bool.not_true, if_true, if_false, wi_eq, wi_eq', wi_ne, wi_row, wi_2, N0, N1, N2, N3, N4, N5, N6, N7, N8, N9, N10, N11, N12, N13, N14, N15, N16, N17, N18, N19, N20, N21, N22, N23, N24, N25, N26, N27, N28, N29, N30, N31, N32, N33, N34, N35, N36, N37, N38, N39, N40, N41, N42, N43, N45, N48, N57, N59, N88, N89, N97, N99, N120, N121, N122, N179, N200, N255, N300, N400, N880, N900, N999, N1019, N50000000, N100000000, N1000000000, N2147483647, N2147483648, t7, p7, f_X7_worthAt_52, f_X7_worthAt_51, t1, e2, lo]
    · have el : lf d v = d.fe v := by unfold lf; rw [if_neg c1, if_neg (fun q => c2 q.1)]
      rw [el]
      simp (disch := omega) only [gd_t, bd_s, nm_W, nm_I, I_add, I_sub, I_mul, I_neg, I_le_t, I_le_f, I_lt_t, I_lt_f, I_eq_t, I_eq_f, I_inb', I_ix', Int.toNat_natCast, decide_true, decide_false, Bool.not_false, Bool.not_true, if_true, if_false, wi_eq, wi_eq', wi_ne, wi_row, wi_2, N0, N1, N2, N3, N4, N5, N6, N7, N8, N9, N10, N11, N12, N13, N14, N15, N16, N17, N18, N19, N20, N21, N22, N23, N24, N25, N26, N27, N28, N29, N30, N31, N32, N33, N34, N35, N36, N37, N38, N39, N40, N41, N42, N43, N45, N48, N57, N59, N88, N89, N97, N99, N120, N121, N122, N179, N200, N255, N300, N400, N880, N900, N999, N1019, N50000000, N100000000, N1000000000, N2147483647, N2147483648, t7, p7, f_X7_worthAt_52, f_X7_worthAt_51, t1, e2]
/-- units at venue v that are worth w each, of r levels from k on -/
def wk (d : MD) (p w : Int) (v : Nat) : Nat → Nat → Int
  | 0, _ => 0
  | r + 1, k => (if d.pr (6 * v + k) ≤ p ∧ d.pr (6 * v + k) + lf d v = w then d.sz (6 * v + k) else 0) + wk d p w v r (k + 1)
def wt (d : MD) (p w : Int) : Nat → Nat → Int
  | 0, _ => 0
  | r + 1, v => wk d p w v (d.lv v) 0 + wt d p w r (v + 1)
theorem lvOk_at {d : MD} {V v k : Nat} (hd : MDok d V) (hv : v < V) (hk : k < d.lv v) : 0 ≤ d.sz (6 * v + k) ∧ d.sz (6 * v + k) ≤ 99 ∧ 1 ≤ d.pr (6 * v + k) ∧ d.pr (6 * v + k) ≤ 999 :=
  (hd.2 v hv).2.2.2.2.2 (6 * v + k) (by omega) (by omega)
theorem r_uw1 {σ : Wd} {V v : Nat} {p w : Int} {d : MD} {k4 : Int32 → Int32 → Int32 → Wd → Option (Int32 × Wd)} (h : RV σ V d) (hd : MDok d V) (hv : v < V) (hp : R p) (hl : σ.1 102 12 = I p) (hw : R w) :
    ∀ (r k n : Nat) (acc z : Int), z = (k : Int) → r < n → k + r = d.lv v →
      f_X7_unitsWorth_15 k4 n (I w) (I acc) (I (v : Int)) (I z) σ = k4 (I w) (I (acc + wk d p w v r k)) (I ((v : Int) + 1)) σ
  | 0, k, n + 1, acc, z, hz, _, hk => by
    have v5 : v < 5 := Nat.lt_of_lt_of_le hv hd.1
    obtain ⟨-, -, -, -, f, -⟩ := hd.2 v hv
    have e1 := (h.2 v hv).2.2.2.2.1
    rw [f_X7_unitsWorth_15]
    simp (disch := omega) only [gd_t, bd_s, nm_W, nm_I, I_add, I_sub, I_mul, I_neg, I_le_t, I_le_f, I_lt_t, I_lt_f, I_eq_t, I_eq_f, I_inb', I_ix', Int.toNat_natCast, decide_true, decide_false, Bool.not_false, Bool.not_true, if_true, if_false, wi_eq, wi_eq', wi_ne, wi_row, wi_2, N0, N1, N2, N3, N4, N5, N6, N7, N8, N9, N10, N11, N12, N13, N14, N15, N16, N17, N18, N19, N20, N21, N22, N23, N24, N25, N26, N27, N28, N29, N30, N31, N32, N33, N34, N35, N36, N37, N38, N39, N40, N41, N42, N43, N45, N48, N57, N59, N88, N89, N97, N99, N120, N121, N122, N179, N200, N255, N300, N400, N880, N900, N999, N1019, N50000000, N100000000, N1000000000, N2147483647, N2147483648, levels7 (σ := σ) v5, e1, wk]
    rw [Int.add_zero]
  | r + 1, k, n + 1, acc, z, hz, hn, hk => by
    subst hz
    have v5 : v < 5 := Nat.lt_of_lt_of_le hv hd.1
    obtain ⟨-, -, -, -, f, -⟩ := hd.2 v hv
    have e1 := (h.2 v hv).2.2.2.2.1
    obtain ⟨e2, e3⟩ := (h.2 v hv).2.2.2.2.2 k (by omega)
    obtain ⟨s1, s2, p1, p2⟩ := lvOk_at hd hv (show k < d.lv v by omega)
    have lb := lf_bnd hd hv
    have p7 := price7 (σ := σ) v5 (show k < 6 by omega)
    have s7 := size7 (σ := σ) v5 (show k < 6 by omega)
    rw [e2] at p7
    rw [e3] at s7
    have w7 := rWorth h hd hv (show k < d.lv v by omega)
    have ih := fun acc => r_uw1 (k4 := k4) h hd hv hp hl hw r (k + 1) n acc ((k : Int) + 1) (by omega) (by omega) (by omega)
    unfold R at hp hw
    rw [wk]
    by_cases c1 : d.pr (6 * v + k) ≤ p
    · by_cases c2 : d.pr (6 * v + k) + lf d v = w
      · rw [if_pos ⟨c1, c2⟩, f_X7_unitsWorth_15]
        simp (disch := omega) only [gd_t, bd_s, nm_W, nm_I, I_add, I_sub, I_mul, I_neg, I_le_t, I_le_f, I_lt_t, I_lt_f, I_eq_t, I_eq_f, I_inb', I_ix', Int.toNat_natCast, decide_true, decide_false, Bool.not_false, Bool.not_true, if_true, if_false, wi_eq, wi_eq', wi_ne, wi_row, wi_2, N0, N1, N2, N3, N4, N5, N6, N7, N8, N9, N10, N11, N12, N13, N14, N15, N16, N17, N18, N19, N20, N21, N22, N23, N24, N25, N26, N27, N28, N29, N30, N31, N32, N33, N34, N35, N36, N37, N38, N39, N40, N41, N42, N43, N45, N48, N57, N59, N88, N89, N97, N99, N120, N121, N122, N179, N200, N255, N300, N400, N880, N900, N999, N1019, N50000000, N100000000, N1000000000, N2147483647, N2147483648, levels7 (σ := σ) v5, e1, p7, s7, w7, hl, f_X7_unitsWorth_62, ih]
        rw [Int.add_assoc]
      · rw [if_neg (fun q => c2 q.2), f_X7_unitsWorth_15]
        simp (disch := omega) only [gd_t, bd_s, nm_W, nm_I, I_add, I_sub, I_mul, I_neg, I_le_t, I_le_f, I_lt_t, I_lt_f, I_eq_t, I_eq_f, I_inb', I_ix', Int.toNat_natCast, decide_true, decide_false, Bool.not_false, Bool.not_true, if_true, if_false, wi_eq, wi_eq', wi_ne, wi_row, wi_2, N0, N1, N2, N3, N4, N5, N6, N7, N8, N9, N10, N11, N12, N13, N14, N15, N16, N17, N18, N19, N20, N21, N22, N23, N24, N25, N26, N27, N28, N29, N30, N31, N32, N33, N34, N35, N36, N37, N38, N39, N40, N41, N42, N43, N45, N48, N57, N59, N88, N89, N97, N99, N120, N121, N122, N179, N200, N255, N300, N400, N880, N900, N999, N1019, N50000000, N100000000, N1000000000, N2147483647, N2147483648, levels7 (σ := σ) v5, e1, p7, s7, w7, hl, f_X7_unitsWorth_62, f_X7_unitsWorth_61, ih]
        rw [Int.add_assoc]
    · rw [if_neg (fun q => c1 q.1), f_X7_unitsWorth_15]
      simp (disch := omega) only [gd_t, bd_s, nm_W, nm_I, I_add, I_sub, I_mul, I_neg, I_le_t, I_le_f, I_lt_t, I_lt_f, I_eq_t, I_eq_f, I_inb', I_ix', Int.toNat_natCast, decide_true, decide_false, Bool.not_false, Bool.not_true, if_true, if_false, wi_eq, wi_eq', wi_ne, wi_row, wi_2, N0, N1, N2, N3, N4, N5, N6, N7, N8, N9, N10, N11, N12, N13, N14, N15, N16, N17, N18, N19, N20, N21, N22, N23, N24, N25, N26, N27, N28, N29, N30, N31, N32, N33, N34, N35, N36, N37, N38, N39, N40, N41, N42, N43, N45, N48, N57, N59, N88, N89, N97, N99, N120, N121, N122, N179, N200, N255, N300, N400, N880, N900, N999, N1019, N50000000, N100000000, N1000000000, N2147483647, N2147483648, levels7 (σ := σ) v5, e1, p7, s7, w7, hl, f_X7_unitsWorth_62, f_X7_unitsWorth_61, ih]
      rw [Int.add_assoc]
theorem r_uw {σ : Wd} {V : Nat} {p w : Int} {d : MD} (h : RV σ V d) (hd : MDok d V) (hp : R p) (hl : σ.1 102 12 = I p) (hw : R w) :
    ∀ (r v n : Nat) (acc z : Int), z = (v : Int) → r < n → v + r = V →
      f_X7_unitsWorth_4 n (I w) (I acc) (I z) σ = some (I (acc + wt d p w r v), σ)
  | 0, v, n + 1, acc, z, hz, _, hv => by
    have h5 := hd.1
    rw [f_X7_unitsWorth_4]
    simp (disch := omega) only [gd_t, bd_s, nm_W, nm_I, I_add, I_sub, I_mul, I_neg, I_le_t, I_le_f, I_lt_t, I_lt_f, I_eq_t, I_eq_f, I_inb', I_ix', Int.toNat_natCast, decide_true, decide_false, Bool.not_false, Bool.not_true, if_true, if_false, wi_eq, wi_eq', wi_ne, wi_row, wi_2, N0, N1, N2, N3, N4, N5, N6, N7, N8, N9, N10, N11, N12, N13, N14, N15, N16, N17, N18, N19, N20, N21, N22, N23, N24, N25, N26, N27, N28, N29, N30, N31, N32, N33, N34, N35, N36, N37, N38, N39, N40, N41, N42, N43, N45, N48, N57, N59, N88, N89, N97, N99, N120, N121, N122, N179, N200, N255, N300, N400, N880, N900, N999, N1019, N50000000, N100000000, N1000000000, N2147483647, N2147483648, h.1, wt]
    rw [Int.add_zero]
  | r + 1, v, n + 1, acc, z, hz, hn, hv => by
    subst hz
    have h5 := hd.1
    obtain ⟨-, -, -, -, f, -⟩ := hd.2 v (by omega)
    have e := r_uw1 (k4 := f_X7_unitsWorth_4 n) h hd (show v < V by omega) hp hl hw (d.lv v) 0 FU acc 0 rfl (by show _ < 6000; omega) (by omega)
    rw [f_X7_unitsWorth_4, wt]
    simp (disch := omega) only [gd_t, bd_s, nm_W, nm_I, I_add, I_sub, I_mul, I_neg, I_le_t, I_le_f, I_lt_t, I_lt_f, I_eq_t, I_eq_f, I_inb', I_ix', Int.toNat_natCast, decide_true, decide_false, Bool.not_false, Bool.not_true, if_true, if_false, wi_eq, wi_eq', wi_ne, wi_row, wi_2, N0, N1, N2, N3, N4, N5, N6, N7, N8, N9, N10, N11, N12, N13, N14, N15, N16, N17, N18, N19, N20, N21, N22, N23, N24, N25, N26, N27, N28, N29, N30, N31, N32, N33, N34, N35, N36, N37, N38, N39, N40, N41, N42, N43, N45, N48, N57, N59, N88, N89, N97, N99, N120, N121, N122, N179, N200, N255, N300, N400, N880, N900, N999, N1019, N50000000, N100000000, N1000000000, N2147483647, N2147483648, h.1, e]
    rw [r_uw h hd hp hl hw r (v + 1) n _ _ (by omega) (by omega) (by omega), Int.add_assoc]
theorem rUW {σ : Wd} {V : Nat} {p w : Int} {d : MD} (h : RV σ V d) (hd : MDok d V) (hp : R p) (hl : σ.1 102 12 = I p) (hw : R w) : f_X7_unitsWorth (I w) σ = some (I (wt d p w V 0), σ) := by
  have h5 := hd.1
  have e := r_uw h hd hp hl hw V 0 FU 0 0 rfl (by show _ < 6000; omega) (by omega)
  rw [Int.zero_add] at e
  exact e
/-- the class: does a level count -/
theorem cCounts {m : Nat} {σ : Wd} {V v k : Nat} {p : Int} {d : MD} (h : CV m σ V d) (hd : MDok d V) (hv : v < V) (hk : k < d.lv v) (hp : R p) (hl : σ.1 m 1 = I p) :
    f_X0_counts m (I (v : Int)) (I (k : Int)) σ = some (I (if d.pr (6 * v + k) ≤ p ∧ 0 < d.sz (6 * v + k) then 1 else 0), σ) := by
  have v5 : v < 5 := Nat.lt_of_lt_of_le hv hd.1
  obtain ⟨-, -, -, -, f, -⟩ := hd.2 v hv
  obtain ⟨e2, e3⟩ := (h.2 v hv).2.2.2.2.2 k hk
  obtain ⟨s1, s2, p1, p2⟩ := lvOk_at hd hv hk
  have t1 : ((v : Int) * 6 + (k : Int)).toNat = 6 * v + k := by omega
  unfold R at hp
  unfold f_X0_counts
  by_cases c1 : d.pr (6 * v + k) ≤ p
  · by_cases c2 : 0 < d.sz (6 * v + k)
    · rw [if_pos ⟨c1, c2⟩]
      simp (disch := omega) only [gd_t, bd_s, nm_W, nm_I, I_add, I_sub, I_mul, I_neg, I_le_t, I_le_f, I_lt_t, I_lt_f, I_eq_t, I_eq_f, I_inb', I_ix', Int.toNat_natCast, decide_true, decide_false, Bool.not_false, Bool.not_true, if_true, if_false, wi_eq, wi_eq', wi_ne, wi_row, wi_2, N0, N1, N2, N3, N4, N5, N6, N7, N8, N9, N10, N11, N12, N13, N14, N15, N16, N17, N18, N19, N20, N21, N22, N23, N24, N25, N26, N27, N28, N29, N30, N31, N32, N33, N34, N35, N36, N37, N38, N39, N40, N41, N42, N43, N45, N48, N57, N59, N88, N89, N97, N99, N120, N121, N122, N179, N200, N255, N300, N400, N880, N900, N999, N1019, N50000000, N100000000, N1000000000, N2147483647, N2147483648, f_X6_slot, t1, hl, e2, e3, f_X0_counts_35]
      rfl
    · rw [if_neg (fun q => c2 q.2)]
      simp (disch := omega) only [gd_t, bd_s, nm_W, nm_I, I_add, I_sub, I_mul, I_neg, I_le_t, I_le_f, I_lt_t, I_lt_f, I_eq_t, I_eq_f, I_inb', I_ix', Int.toNat_natCast, decide_true, decide_false, Bool.not_false, Bool.not_true, if_true, if_false, wi_eq, wi_eq', wi_ne, wi_row, wi_2, N0, N1, N2, N3, N4, N5, N6, N7, N8, N9, N10, N11, N12, N13, N14, N15, N16, N17, N18, N19, N20, N21, N22, N23, N24, N25, N26, N27, N28, N29, N30, N31, N32, N33, N34, N35, N36, N37, N38, N39, N40, N41, N42, N43, N45, N48, N57, N59, N88, N89, N97, N99, N120, N121, N122, N179, N200, N255, N300, N400, N880, N900, N999, N1019, N50000000, N100000000, N1000000000, N2147483647, N2147483648, f_X6_slot, t1, hl, e2, e3, f_X0_counts_34, f_X0_counts_35]
      rfl
  · rw [if_neg (fun q => c1 q.1)]
    simp (disch := omega) only [gd_t, bd_s, nm_W, nm_I, I_add, I_sub, I_mul, I_neg, I_le_t, I_le_f, I_lt_t, I_lt_f, I_eq_t, I_eq_f, I_inb', I_ix', Int.toNat_natCast, decide_true, decide_false, Bool.not_false, Bool.not_true, if_true, if_false, wi_eq, wi_eq', wi_ne, wi_row, wi_2, N0, N1, N2, N3, N4, N5, N6, N7, N8, N9, N10, N11, N12, N13, N14, N15, N16, N17, N18, N19, N20, N21, N22, N23, N24, N25, N26, N27, N28, N29, N30, N31, N32, N33, N34, N35, N36, N37, N38, N39, N40, N41, N42, N43, N45, N48, N57, N59, N88, N89, N97, N99, N120, N121, N122, N179, N200, N255, N300, N400, N880, N900, N999, N1019, N50000000, N100000000, N1000000000, N2147483647, N2147483648, f_X6_slot, t1, hl, e2, e3, f_X0_counts_34, f_X0_counts_35]
    rfl
theorem c_um1 {m : Nat} {σ : Wd} {V v : Nat} {p w : Int} {d : MD} {k4 : Int32 → Int32 → Int32 → Wd → Option (Int32 × Wd)} (h : CV m σ V d) (hd : MDok d V) (hv : v < V) (hp : R p) (hl : σ.1 m 1 = I p) (hw : R w) :
    ∀ (r k n : Nat) (acc z : Int), z = (k : Int) → r < n → k + r = d.lv v →
      f_X0_unitsAtMarginal_15 m k4 n (I w) (I acc) (I (v : Int)) (I z) σ = k4 (I w) (I (acc + wk d p w v r k)) (I ((v : Int) + 1)) σ
  | 0, k, n + 1, acc, z, hz, _, hk => by
    have v5 : v < 5 := Nat.lt_of_lt_of_le hv hd.1
    obtain ⟨-, -, -, -, f, -⟩ := hd.2 v hv
    have e1 := (h.2 v hv).2.2.2.2.1
    rw [f_X0_unitsAtMarginal_15]
    simp (disch := omega) only [gd_t, bd_s, nm_W, nm_I, I_add, I_sub, I_mul, I_neg, I_le_t, I_le_f, I_lt_t, I_lt_f, I_eq_t, I_eq_f, I_inb', I_ix', Int.toNat_natCast, decide_true, decide_false, Bool.not_false, Bool.not_true, if_true, if_false, wi_eq, wi_eq', wi_ne, wi_row, wi_2, N0, N1, N2, N3, N4, N5, N6, N7, N8, N9, N10, N11, N12, N13, N14, N15, N16, N17, N18, N19, N20, N21, N22, N23, N24, N25, N26, N27, N28, N29, N30, N31, N32, N33, N34, N35, N36, N37, N38, N39, N40, N41, N42, N43, N45, N48, N57, N59, N88, N89, N97, N99, N120, N121, N122, N179, N200, N255, N300, N400, N880, N900, N999, N1019, N50000000, N100000000, N1000000000, N2147483647, N2147483648, e1, wk]
    rw [Int.add_zero]
  | r + 1, k, n + 1, acc, z, hz, hn, hk => by
    subst hz
    have v5 : v < 5 := Nat.lt_of_lt_of_le hv hd.1
    obtain ⟨-, -, -, -, f, -⟩ := hd.2 v hv
    have e1 := (h.2 v hv).2.2.2.2.1
    obtain ⟨e2, e3⟩ := (h.2 v hv).2.2.2.2.2 k (by omega)
    obtain ⟨s1, s2, p1, p2⟩ := lvOk_at hd hv (show k < d.lv v by omega)
    have lb := lf_bnd hd hv
    have t1 : ((v : Int) * 6 + (k : Int)).toNat = 6 * v + k := by omega
    have ct := cCounts h hd hv (show k < d.lv v by omega) hp hl
    have ih := fun acc => c_um1 (k4 := k4) h hd hv hp hl hw r (k + 1) n acc ((k : Int) + 1) (by omega) (by omega) (by omega)
    unfold R at hp hw
    rw [wk]
    by_cases c1 : d.pr (6 * v + k) ≤ p ∧ 0 < d.sz (6 * v + k)
    · rw [if_pos c1] at ct
      by_cases c2 : d.pr (6 * v + k) + lf d v = w
      · rw [if_pos ⟨c1.1, c2⟩, f_X0_unitsAtMarginal_15]
        simp (disch := omega) only [gd_t, bd_s, nm_W, nm_I, I_add, I_sub, I_mul, I_neg, I_le_t, I_le_f, I_lt_t, I_lt_f, I_eq_t, I_eq_f, I_inb', I_ix', Int.toNat_natCast, decide_true, decide_false, Bool.not_false, Bool.not_true, if_true, if_false, wi_eq, wi_eq', wi_ne, wi_row, wi_2, N0, N1, N2, N3, N4, N5, N6, N7, N8, N9, N10, N11, N12, N13, N14, N15, N16, N17, N18, N19, N20, N21, N22, N23, N24, N25, N26, N27, N28, N29, N30, N31, N32, N33, N34, N35, N36, N37, N38, N39, N40, N41, N42, N43, N45, N48, N57, N59, N88, N89, N97, N99, N120, N121, N122, N179, N200, N255, N300, N400, N880, N900, N999, N1019, N50000000, N100000000, N1000000000, N2147483647, N2147483648, e1, ct, f_X6_slot, t1, e2, e3, cLeastFee h hd hv, f_X0_unitsAtMarginal_71, ih]
        rw [Int.add_assoc]
      · rw [if_neg (fun q => c2 q.2), f_X0_unitsAtMarginal_15]
        simp (disch := omega) only [gd_t, bd_s, nm_W, nm_I, I_add, I_sub, I_mul, I_neg, I_le_t, I_le_f, I_lt_t, I_lt_f, I_eq_t, I_eq_f, I_inb', I_ix', Int.toNat_natCast, decide_true, decide_false, Bool.not_false, Bool.not_true, if_true, if_false, wi_eq, wi_eq', wi_ne, wi_row, wi_2, N0, N1, N2, N3, N4, N5, N6, N7, N8, N9, N10, N11, N12, N13, N14, N15, N16, N17, N18, N19, N20, N21, N22, N23, N24, N25, N26, N27, N28, N29, N30, N31, N32, N33, N34, N35, N36, N37, N38, N39, N40, N41, N42, N43, N45, N48, N57, N59, N88, N89, N97, N99, N120, N121, N122, N179, N200, N255, N300, N400, N880, N900, N999, N1019, N50000000, N100000000, N1000000000, N2147483647, N2147483648, e1, ct, f_X6_slot, t1, e2, e3, cLeastFee h hd hv, f_X0_unitsAtMarginal_71, ih]
        rw [Int.zero_add]
    · rw [if_neg c1] at ct
      have z0 : (if d.pr (6 * v + k) ≤ p ∧ d.pr (6 * v + k) + lf d v = w then d.sz (6 * v + k) else 0) = 0 := by
        split
        · omega
        · rfl
      rw [z0, f_X0_unitsAtMarginal_15]
      simp (disch := omega) only [gd_t, bd_s, nm_W, nm_I, I_add, I_sub, I_mul, I_neg, I_le_t, I_le_f, I_lt_t, I_lt_f, I_eq_t, I_eq_f, I_inb', I_ix', Int.toNat_natCast, decide_true, decide_false, Bool.not_false, Bool.not_true, if_true, if_false, wi_eq, wi_eq', wi_ne, wi_row, wi_2, N0, N1, N2, N3, N4, N5, N6, N7, N8, N9, N10, N11, N12, N13, N14, N15, N16, N17, N18, N19, N20, N21, N22, N23, N24, N25, N26, N27, N28, N29, N30, N31, N32, N33, N34, N35, N36, N37, N38, N39, N40, N41, N42, N43, N45, N48, N57, N59, N88, N89, N97, N99, N120, N121, N122, N179, N200, N255, N300, N400, N880, N900, N999, N1019, N50000000, N100000000, N1000000000, N2147483647, N2147483648, e1, ct, f_X0_unitsAtMarginal_71, ih]
      rw [Int.zero_add]
theorem c_um {m : Nat} {σ : Wd} {V : Nat} {p w : Int} {d : MD} (h : CV m σ V d) (hd : MDok d V) (hp : R p) (hl : σ.1 m 1 = I p) (hw : R w) :
    ∀ (r v n : Nat) (acc z : Int), z = (v : Int) → r < n → v + r = V →
      f_X0_unitsAtMarginal_4 m n (I w) (I acc) (I z) σ = some (I (acc + wt d p w r v), σ)
  | 0, v, n + 1, acc, z, hz, _, hv => by
    have h5 := hd.1
    rw [f_X0_unitsAtMarginal_4]
    simp (disch := omega) only [gd_t, bd_s, nm_W, nm_I, I_add, I_sub, I_mul, I_neg, I_le_t, I_le_f, I_lt_t, I_lt_f, I_eq_t, I_eq_f, I_inb', I_ix', Int.toNat_natCast, decide_true, decide_false, Bool.not_false, Bool.not_true, if_true, if_false, wi_eq, wi_eq', wi_ne, wi_row, wi_2, N0, N1, N2, N3, N4, N5, N6, N7, N8, N9, N10, N11, N12, N13, N14, N15, N16, N17, N18, N19, N20, N21, N22, N23, N24, N25, N26, N27, N28, N29, N30, N31, N32, N33, N34, N35, N36, N37, N38, N39, N40, N41, N42, N43, N45, N48, N57, N59, N88, N89, N97, N99, N120, N121, N122, N179, N200, N255, N300, N400, N880, N900, N999, N1019, N50000000, N100000000, N1000000000, N2147483647, N2147483648, h.1, wt]
    rw [Int.add_zero]
  | r + 1, v, n + 1, acc, z, hz, hn, hv => by
    subst hz
    have h5 := hd.1
    obtain ⟨-, -, -, -, f, -⟩ := hd.2 v (by omega)
    have e := c_um1 (k4 := f_X0_unitsAtMarginal_4 m n) h hd (show v < V by omega) hp hl hw (d.lv v) 0 FU acc 0 rfl (by show _ < 6000; omega) (by omega)
    rw [f_X0_unitsAtMarginal_4, wt]
    simp (disch := omega) only [gd_t, bd_s, nm_W, nm_I, I_add, I_sub, I_mul, I_neg, I_le_t, I_le_f, I_lt_t, I_lt_f, I_eq_t, I_eq_f, I_inb', I_ix', Int.toNat_natCast, decide_true, decide_false, Bool.not_false, Bool.not_true, if_true, if_false, wi_eq, wi_eq', wi_ne, wi_row, wi_2, N0, N1, N2, N3, N4, N5, N6, N7, N8, N9, N10, N11, N12, N13, N14, N15, N16, N17, N18, N19, N20, N21, N22, N23, N24, N25, N26, N27, N28, N29, N30, N31, N32, N33, N34, N35, N36, N37, N38, N39, N40, N41, N42, N43, N45, N48, N57, N59, N88, N89, N97, N99, N120, N121, N122, N179, N200, N255, N300, N400, N880, N900, N999, N1019, N50000000, N100000000, N1000000000, N2147483647, N2147483648, h.1, e]
    rw [c_um h hd hp hl hw r (v + 1) n _ _ (by omega) (by omega) (by omega), Int.add_assoc]
theorem cUM {m : Nat} {σ : Wd} {V : Nat} {p w : Int} {d : MD} (h : CV m σ V d) (hd : MDok d V) (hp : R p) (hl : σ.1 m 1 = I p) (hw : R w) : f_X0_unitsAtMarginal m (I w) σ = some (I (wt d p w V 0), σ) := by
  have h5 := hd.1
  have e := c_um h hd hp hl hw V 0 FU 0 0 rfl (by show _ < 6000; omega) (by omega)
  rw [Int.zero_add] at e
  exact e
