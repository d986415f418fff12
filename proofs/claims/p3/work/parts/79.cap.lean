/-! PURE: caps; is there a lot; is anything under way -/
def cp (pr sz : Nat → Int) : Nat → Nat → Int → Int → Int
  | 0, _, _, c => c
  | r + 1, i, left, c => if left ≤ 0 then c else if sz i ≤ 0 then cp pr sz r (i + 1) left c else cp pr sz r (i + 1) (left - sz i) (pr i)
def cap (d : MD) (v : Nat) (n : Int) : Int := cp d.pr d.sz (d.lv v) (6 * v) n 0
theorem cp_b {pr sz : Nat → Int} : ∀ (r i : Nat) (left c : Int), lvOk pr sz r i → 0 ≤ c → c ≤ 999 → 0 ≤ cp pr sz r i left c ∧ cp pr sz r i left c ≤ 999
  | 0, _, _, _, _, h1, h2 => ⟨h1, h2⟩
  | r + 1, i, left, c, hk, h1, h2 => by
    obtain ⟨s1, s2, p1, p2⟩ := hk i (by omega) (by omega)
    have hk' : lvOk pr sz r (i + 1) := fun j q1 q2 => hk j (by omega) (by omega)
    unfold cp
    split
    · exact ⟨h1, h2⟩
    · split
      · exact cp_b r (i + 1) _ _ hk' h1 h2
      · exact cp_b r (i + 1) _ _ hk' (by omega) p2
theorem cap_b {d : MD} {V v : Nat} {n : Int} (hd : MDok d V) (hv : v < V) : 0 ≤ cap d v n ∧ cap d v n ≤ 999 := cp_b _ _ _ _ (hd.2 v hv).2.2.2.2.2 (by omega) (by omega)
theorem c_cap {m : Nat} {σ : Wd} {V v : Nat} {d : MD} (h : CV m σ V d) (hd : MDok d V) (hv : v < V) :
    ∀ (r k n : Nat) (left c z : Int), z = 6 * (v : Int) + (k : Int) → k + r = d.lv v → r < n → -1000 ≤ left → left ≤ 1000 →
      f_X3_capOf_15 m n (I (v : Int)) (I c) (I left) (I (6 * (v : Int))) (I z) σ = some (I (cp d.pr d.sz r (6 * v + k) left c), σ)
  | 0, k, n + 1, left, c, z, hz, hk, _, l1, l2 => by
    have v5 : v < 5 := Nat.lt_of_lt_of_le hv hd.1
    obtain ⟨-, -, -, -, f, -⟩ := hd.2 v hv
    have e1 := (h.2 v hv).2.2.2.2.1
    rw [f_X3_capOf_15]
    simp (disch := omega) only [gd_t, bd_s, nm_W, nm_I, I_add, I_sub, I_mul, I_neg, I_le_t, I_le_f, I_lt_t, I_lt_f, I_eq_t, I_eq_f, I_inb', I_ix', Int.toNat_natCast, decide_true, decide_false, Bool.not_false, Bool.not_true, if_true, if_false, wi_eq, wi_eq', wi_ne, wi_row, wi_2, N0, N1, N2, N3, N4, N5, N6, N7, N8, N9, N10, N11, N12, N13, N14, N15, N16, N17, N18, N19, N20, N21, N22, N23, N24, N25, N26, N27, N28, N29, N30, N31, N32, N33, N34, N35, N36, N37, N38, N39, N40, N41, N42, N43, N45, N48, N57, N59, N88, N89, N97, N99, N120, N121, N122, N179, N200, N255, N300, N400, N880, N900, N999, N1019, N50000000, N100000000, N1000000000, N2147483647, N2147483648, e1, f_X3_capOf_70, cp]
  | r + 1, k, n + 1, left, c, z, hz, hk, hn, l1, l2 => by
    have v5 : v < 5 := Nat.lt_of_lt_of_le hv hd.1
    obtain ⟨-, -, -, -, f, -⟩ := hd.2 v hv
    have e1 := (h.2 v hv).2.2.2.2.1
    obtain ⟨e2, e3⟩ := (h.2 v hv).2.2.2.2.2 k (by omega)
    obtain ⟨s1, s2, p1, p2⟩ := lvOk_at hd hv (show k < d.lv v by omega)
    have tz : z.toNat = 6 * v + k := by omega
    have ih := fun left c h1 h2 => c_cap h hd hv r (k + 1) n left c (z + 1) (by omega) (by omega) (by omega) h1 h2
    rw [show 6 * v + (k + 1) = 6 * v + k + 1 from rfl] at ih
    rw [cp]
    by_cases c1 : left ≤ 0
    · rw [if_pos c1, f_X3_capOf_15]
      simp (disch := omega) only [gd_t, bd_s, nm_W, nm_I, I_add, I_sub, I_mul, I_neg, I_le_t, I_le_f, I_lt_t, I_lt_f, I_eq_t, I_eq_f, I_inb', I_ix', Int.toNat_natCast, decide_true, decide_false, Bool.not_false, Bool.not_true, if_true, if_false, wi_eq, wi_eq', wi_ne, wi_row, wi_2, N0, N1, N2, N3, N4, N5, N6, N7, N8, N9, N10, N11, N12, N13, N14, N15, N16, N17, N18, N19, N20, N21, N22, N23, N24, N25, N26, N27, N28, N29, N30, N31, N32, N33, N34, N35, N36, N37, N38, N39, N40, N41, N42, N43, N45, N48, N57, N59, N88, N89, N97, N99, N120, N121, N122, N179, N200, N255, N300, N400, N880, N900, N999, N1019, N50000000, N100000000, N1000000000, N2147483647, N2147483648, e1, f_X3_capOf_70]
    · rw [if_neg c1]
      by_cases c2 : d.sz (6 * v + k) ≤ 0
      · rw [if_pos c2, f_X3_capOf_15]
        simp (disch := omega) only [gd_t, bd_s, nm_W, nm_I, I_add, I_sub, I_mul, I_neg, I_le_t, I_le_f, I_lt_t, I_lt_f, I_eq_t, I_eq_f, I_inb', I_ix', Int.toNat_natCast, decide_true, decide_false, Bool.not_false, Bool.not_true, if_true, if_false, wi_eq, wi_eq', wi_ne, wi_row, wi_2, N0, N1, N2, N3, N4, N5, N6, N7, N8, N9, N10, N11, N12, N13, N14, N15, N16, N17, N18, N19, N20, N21, N22, N23, N24, N25, N26, N27, N28, N29, N30, N31, N32, N33, N34, N35, N36, N37, N38, N39, N40, N41, N42, N43, N45, N48, N57, N59, N88, N89, N97, N99, N120, N121, N122, N179, N200, N255, N300, N400, N880, N900, N999, N1019, N50000000, N100000000, N1000000000, N2147483647, N2147483648, e1, tz, e3, f_X3_capOf_64]
        exact ih left c l1 l2
      · rw [if_neg c2, f_X3_capOf_15]
        simp (disch := omega) only [gd_t, bd_s, nm_W, nm_I, I_add, I_sub, I_mul, I_neg, I_le_t, I_le_f, I_lt_t, I_lt_f, I_eq_t, I_eq_f, I_inb', I_ix', Int.toNat_natCast, decide_true, decide_false, Bool.not_false, Bool.not_true, if_true, if_false, wi_eq, wi_eq', wi_ne, wi_row, wi_2, N0, N1, N2, N3, N4, N5, N6, N7, N8, N9, N10, N11, N12, N13, N14, N15, N16, N17, N18, N19, N20, N21, N22, N23, N24, N25, N26, N27, N28, N29, N30, N31, N32, N33, N34, N35, N36, N37, N38, N39, N40, N41, N42, N43, N45, N48, N57, N59, N88, N89, N97, N99, N120, N121, N122, N179, N200, N255, N300, N400, N880, N900, N999, N1019, N50000000, N100000000, N1000000000, N2147483647, N2147483648, e1, tz, e2, e3, f_X3_capOf_64]
        exact ih _ _ (by omega) (by omega)
theorem cCap {m : Nat} {σ : Wd} {V v : Nat} {d : MD} {n : Int} (h : CV m σ V d) (hd : MDok d V) (hv : v < V) (n1 : 0 ≤ n) (n2 : n ≤ 1000) : f_X3_capOf m (I (v : Int)) (I n) σ = some (I (cap d v n), σ) := by
  obtain ⟨-, -, -, -, f, -⟩ := hd.2 v hv
  have e := c_cap h hd hv (d.lv v) 0 FU n 0 (6 * (v : Int)) (by omega) (by omega) (by show _ < 6000; omega) (by omega) n2
  unfold f_X3_capOf
  simp (disch := omega) only [gd_t, bd_s, nm_W, nm_I, I_add, I_sub, I_mul, I_neg, I_le_t, I_le_f, I_lt_t, I_lt_f, I_eq_t, I_eq_f, I_inb', I_ix', Int.toNat_natCast, decide_true, decide_false, Bool.not_false, Bool.not_true, if_true, if_false, wi_eq, wi_eq', wi_ne, wi_row, wi_2, N0, N1, N2, N3, N4, N5, N6, N7, N8, N9, N10, N11, N12, N13, N14, N15, N16, N17, N18, N19, N20, N21, N22, N23, N24, N25, N26, N27, N28, N29, N30, N31, N32, N33, N34, N35, N36, N37, N38, N39, N40, N41, N42, N43, N45, N48, N57, N59, N88, N89, N97, N99, N120, N121, N122, N179, N200, N255, N300, N400, N880, N900, N999, N1019, N50000000, N100000000, N1000000000, N2147483647, N2147483648]
  rw [Int.mul_comm]
  exact e
theorem r_cap {σ : Wd} {V v : Nat} {d : MD} (h : RV σ V d) (hd : MDok d V) (hv : v < V) :
    ∀ (r k n : Nat) (left c z : Int), z = (k : Int) → k + r = d.lv v → r < n → -1000 ≤ left → left ≤ 1000 →
      f_X7_capOf_8 n (I (v : Int)) (I left) (I c) (I z) σ = some (I (cp d.pr d.sz r (6 * v + k) left c), σ)
  | 0, k, n + 1, left, c, z, hz, hk, _, l1, l2 => by
    have v5 : v < 5 := Nat.lt_of_lt_of_le hv hd.1
    obtain ⟨-, -, -, -, f, -⟩ := hd.2 v hv
    have e1 := (h.2 v hv).2.2.2.2.1
    rw [f_X7_capOf_8]
    simp (disch := omega) only [gd_t, bd_s, nm_W, nm_I, I_add, I_sub, I_mul, I_neg, I_le_t, I_le_f, I_lt_t, I_lt_f, I_eq_t, I_eq_f, I_inb', I_ix', Int.toNat_natCast, decide_true, decide_false, Bool.not_false, Bool.not_true, if_true, if_false, wi_eq, wi_eq', wi_ne, wi_row, wi_2, N0, N1, N2, N3, N4, N5, N6, N7, N8, N9, N10, N11, N12, N13, N14, N15, N16, N17, N18, N19, N20, N21, N22, N23, N24, N25, N26, N27, N28, N29, N30, N31, N32, N33, N34, N35, N36, N37, N38, N39, N40, N41, N42, N43, N45, N48, N57, N59, N88, N89, N97, N99, N120, N121, N122, N179, N200, N255, N300, N400, N880, N900, N999, N1019, N50000000, N100000000, N1000000000, N2147483647, N2147483648, levels7 (σ := σ) v5, e1, f_X7_capOf_60, cp]
  | r + 1, k, n + 1, left, c, z, hz, hk, hn, l1, l2 => by
    subst hz
    have v5 : v < 5 := Nat.lt_of_lt_of_le hv hd.1
    obtain ⟨-, -, -, -, f, -⟩ := hd.2 v hv
    have e1 := (h.2 v hv).2.2.2.2.1
    obtain ⟨e2, e3⟩ := (h.2 v hv).2.2.2.2.2 k (by omega)
    obtain ⟨s1, s2, p1, p2⟩ := lvOk_at hd hv (show k < d.lv v by omega)
    have p7 := price7 (σ := σ) v5 (show k < 6 by omega)
    have s7 := size7 (σ := σ) v5 (show k < 6 by omega)
    rw [e2] at p7
    rw [e3] at s7
    have ih := fun left c h1 h2 => r_cap h hd hv r (k + 1) n left c ((k : Int) + 1) (by omega) (by omega) (by omega) h1 h2
    rw [show 6 * v + (k + 1) = 6 * v + k + 1 from rfl] at ih
    rw [cp]
    by_cases c1 : left ≤ 0
    · rw [if_pos c1, f_X7_capOf_8]
      simp (disch := omega) only [gd_t, bd_s, nm_W, nm_I, I_add, I_sub, I_mul, I_neg, I_le_t, I_le_f, I_lt_t, I_lt_f, I_eq_t, I_eq_f, I_inb', I_ix', Int.toNat_natCast, decide_true, decide_false, Bool.not_false, Bool.not_true, if_true, if_false, wi_eq, wi_eq', wi_ne, wi_row, wi_2, N0, N1, N2, N3, N4, N5, N6, N7, N8, N9, N10, N11, N12, N13, N14, N15, N16, N17, N18, N19, N20, N21, N22, N23, N24, N25, N26, N27, N28, N29, N30, N31, N32, N33, N34, N35, N36, N37, N38, N39, N40, N41, N42, N43, N45, N48, N57, N59, N88, N89, N97, N99, N120, N121, N122, N179, N200, N255, N300, N400, N880, N900, N999, N1019, N50000000, N100000000, N1000000000, N2147483647, N2147483648, levels7 (σ := σ) v5, e1, f_X7_capOf_60]
    · rw [if_neg c1]
      by_cases c2 : d.sz (6 * v + k) ≤ 0
      · rw [if_pos c2, f_X7_capOf_8]
        simp (disch := omega) only [gd_t, bd_s, nm_W, nm_I, I_add, I_sub, I_mul, I_neg, I_le_t, I_le_f, I_lt_t, I_lt_f, I_eq_t, I_eq_f, I_inb', I_ix', Int.toNat_natCast, decide_true, decide_false, Bool.not_false, Bool.not_true, if_true, if_false, wi_eq, wi_eq', wi_ne, wi_row, wi_2, N0, N1, N2, N3, N4, N5, N6, N7, N8, N9, N10, N11, N12, N13, N14, N15, N16, N17, N18, N19, N20, N21, N22, N23, N24, N25, N26, N27, N28, N29, N30, N31, N32, N33, N34, N35, N36, N37, N38, N39, N40, N41, N42, N43, N45, N48, N57, N59, N88, N89, N97, N99, N120, N121, N122, N179, N200, N255, N300, N400, N880, N900, N999, N1019, N50000000, N100000000, N1000000000, N2147483647, N2147483648, levels7 (σ := σ) v5, e1, s7, f_X7_capOf_54]
        exact ih left c l1 l2
      · rw [if_neg c2, f_X7_capOf_8]
        simp (disch := omega) only [gd_t, bd_s, nm_W, nm_I, I_add, I_sub, I_mul, I_neg, I_le_t, I_le_f, I_lt_t, I_lt_f, I_eq_t, I_eq_f, I_inb', I_ix', Int.toNat_natCast, decide_true, decide_false, Bool.not_false, Bool.not_true, if_true, if_false, wi_eq, wi_eq', wi_ne, wi_row, wi_2, N0, N1, N2, N3, N4, N5, N6, N7, N8, N9, N10, N11, N12, N13, N14, N15, N16, N17, N18, N19, N20, N21, N22, N23, N24, N25, N26, N27, N28, N29, N30, N31, N32, N33, N34, N35, N36, N37, N38, N39, N40, N41, N42, N43, N45, N48, N57, N59, N88, N89, N97, N99, N120, N121, N122, N179, N200, N255, N300, N400, N880, N900, N999, N1019, N50000000, N100000000, N1000000000, N2147483647, N2147483648, levels7 (σ := σ) v5, e1, s7, p7, f_X7_capOf_54]
        exact ih _ _ (by omega) (by omega)
theorem rCap {σ : Wd} {V v : Nat} {d : MD} {n : Int} (h : RV σ V d) (hd : MDok d V) (hv : v < V) (n1 : 0 ≤ n) (n2 : n ≤ 1000) : f_X7_capOf (I (v : Int)) (I n) σ = some (I (cap d v n), σ) := by
  obtain ⟨-, -, -, -, f, -⟩ := hd.2 v hv
  exact r_cap h hd hv (d.lv v) 0 FU n 0 0 rfl (by omega) (by show _ < 6000; omega) (by omega) n2
/-- is there a lot to be had, q units at most -/
def hw (d : MD) (p : Int) (q : Nat) : Nat → Nat → Bool
  | 0, _ => false
  | r + 1, v => if rm d p (-1) q v = 0 then hw d p q r (v + 1) else true
theorem c_has {m V q : Nat} {p : Int} {d : MD} {σ : Wd} (h : CV m σ V d) (hd : MDok d V) (hp : R p) (hl : σ.1 m 1 = I p) (hq : q ≤ 120) :
    ∀ (r v n : Nat) (z : Int), z = (v : Int) → v + r = V → r < n → f_X3_hasLotWithin_2 m n (I (q : Int)) (I z) σ = some (I (bn (hw d p q r v)), σ)
  | 0, v, n + 1, z, hz, hv, _ => by
    have h5 := hd.1
    rw [f_X3_hasLotWithin_2]
    simp (disch := omega) only [gd_t, bd_s, nm_W, nm_I, I_add, I_sub, I_mul, I_neg, I_le_t, I_le_f, I_lt_t, I_lt_f, I_eq_t, I_eq_f, I_inb', I_ix', Int.toNat_natCast, decide_true, decide_false, Bool.not_false, Bool.not_true, if_true, if_false, wi_eq, wi_eq', wi_ne, wi_row, wi_2, N0, N1, N2, N3, N4, N5, N6, N7, N8, N9, N10, N11, N12, N13, N14, N15, N16, N17, N18, N19, N20, N21, N22, N23, N24, N25, N26, N27, N28, N29, N30, N31, N32, N33, N34, N35, N36, N37, N38, N39, N40, N41, N42, N43, N45, N48, N57, N59, N88, N89, N97, N99, N120, N121, N122, N179, N200, N255, N300, N400, N880, N900, N999, N1019, N50000000, N100000000, N1000000000, N2147483647, N2147483648, h.1, hw, bn_f, isb_0]
  | r + 1, v, n + 1, z, hz, hv, hn => by
    subst hz
    have h5 := hd.1
    have hvV : v < V := by omega
    have rb := rm_le (p := p) (but := -1) (q := q) hd hvV
    have er := kx_whl (u := q) (p := p) (but := -1) hd hvV
    rw [if_neg (by omega)] at er
    have e2 := cWhole h hd hvV hp hl (q := (q : Int)) (by omega) (by omega)
    rw [er, show kx d p (-1) v q * (d.lo v).toNat = rm d p (-1) q v from rfl] at e2
    rw [hw]
    by_cases c : rm d p (-1) q v = 0
    · rw [if_pos c, f_X3_hasLotWithin_2]
      simp (disch := omega) only [gd_t, bd_s, nm_W, nm_I, I_add, I_sub, I_mul, I_neg, I_le_t, I_le_f, I_lt_t, I_lt_f, I_eq_t, I_eq_f, I_inb', I_ix', Int.toNat_natCast, decide_true, decide_false, Bool.not_false, Bool.not_true, if_true, if_false, wi_eq, wi_eq', wi_ne, wi_row, wi_2, N0, N1, N2, N3, N4, N5, N6, N7, N8, N9, N10, N11, N12, N13, N14, N15, N16, N17, N18, N19, N20, N21, N22, N23, N24, N25, N26, N27, N28, N29, N30, N31, N32, N33, N34, N35, N36, N37, N38, N39, N40, N41, N42, N43, N45, N48, N57, N59, N88, N89, N97, N99, N120, N121, N122, N179, N200, N255, N300, N400, N880, N900, N999, N1019, N50000000, N100000000, N1000000000, N2147483647, N2147483648, h.1, e2]
      exact c_has h hd hp hl hq r (v + 1) n _ (by omega) (by omega) (by omega)
    · rw [if_neg c, f_X3_hasLotWithin_2]
      simp (disch := omega) only [gd_t, bd_s, nm_W, nm_I, I_add, I_sub, I_mul, I_neg, I_le_t, I_le_f, I_lt_t, I_lt_f, I_eq_t, I_eq_f, I_inb', I_ix', Int.toNat_natCast, decide_true, decide_false, Bool.not_false, Bool.not_true, if_true, if_false, wi_eq, wi_eq', wi_ne, wi_row, wi_2, N0, N1, N2, N3, N4, N5, N6, N7, N8, N9, N10, N11, N12, N13, N14, N15, N16, N17, N18, N19, N20, N21, N22, N23, N24, N25, N26, N27, N28, N29, N30, N31, N32, N33, N34, N35, N36, N37, N38, N39, N40, N41, N42, N43, N45, N48, N57, N59, N88, N89, N97, N99, N120, N121, N122, N179, N200, N255, N300, N400, N880, N900, N999, N1019, N50000000, N100000000, N1000000000, N2147483647, N2147483648, h.1, e2, bn_t, isb_1]
theorem mnf_ne {f : Nat → Option Int} {K i : Nat} (hi : i ≤ K) (h : f i ≠ none) : mnf f K ≠ none := fun e => h (mnf_no e i hi)
theorem lcs_one {d : MD} {V a : Nat} {p : Int} (hd : MDok d V) (ha : a < V) (hD : d.lo a ≤ dep d p a) : ∀ j, j ≤ V → V - j ≤ a → lcs d p (-1) V j (d.lo a).toNat ≠ none
  | 0, _, h => absurd h (by omega)
  | j + 1, hj, h => by
    obtain ⟨-, lb, -⟩ := hd.2 a ha
    unfold lcs
    by_cases c : V - (j + 1) = a
    · rw [c]
      have k1 : 1 ≤ kx d p (-1) a (d.lo a).toNat := by
        unfold kx
        rw [if_neg (by omega), show min (d.lo a).toNat (dep d p a).toNat = (d.lo a).toNat from by omega, Nat.div_self (by omega)]
        exact Nat.le_refl _
      refine mnf_ne k1 ?_
      show oadd _ (lcs d p (-1) V j ((d.lo a).toNat - 1 * (d.lo a).toNat)) ≠ none
      rw [Nat.one_mul, Nat.sub_self, lcs_0]
      exact fun h => by cases h
    · refine mnf_ne (Nat.zero_le _) ?_
      show oadd _ (lcs d p (-1) V j ((d.lo a).toNat - 0 * (d.lo (V - (j + 1))).toNat)) ≠ none
      rw [Nat.zero_mul, Nat.sub_zero]
      have ih := lcs_one hd ha hD j (by omega) (by omega)
      cases e : lcs d p (-1) V j (d.lo a).toNat with
      | none => exact absurd e ih
      | some y => exact fun h => by cases h
theorem hw_at {d : MD} {p : Int} {q : Nat} : ∀ (r v : Nat), hw d p q r v = true → ∃ a, v ≤ a ∧ a < v + r ∧ rm d p (-1) q a ≠ 0
  | 0, _, h => by cases h
  | r + 1, v, h => by
    unfold hw at h
    by_cases c : rm d p (-1) q v = 0
    · rw [if_pos c] at h
      obtain ⟨a, h1, h2, h3⟩ := hw_at r (v + 1) h
      exact ⟨a, by omega, by omega, h3⟩
    · exact ⟨v, by omega, by omega, c⟩
theorem hw_no {d : MD} {p : Int} {q : Nat} : ∀ (r v : Nat), hw d p q r v = false → srm d p (-1) q r v = 0
  | 0, _, _ => rfl
  | r + 1, v, h => by
    unfold hw at h
    by_cases c : rm d p (-1) q v = 0
    · rw [if_pos c] at h
      unfold srm
      rw [c, hw_no r (v + 1) h]
    · rw [if_neg c] at h
      cases h
theorem hw_bu {d : MD} {V q : Nat} {p : Int} (hd : MDok d V) : hw d p q V 0 = true ↔ 0 < bu (lcs d p (-1) V V) q := by
  constructor
  · intro h
    obtain ⟨a, -, h2, h3⟩ := hw_at V 0 h
    have ha : a < V := by omega
    obtain ⟨-, lb, -⟩ := hd.2 a ha
    have db := dep_bnd (p := p) hd ha
    have l1 : 1 ≤ (d.lo a).toNat := by omega
    have k1 : 1 ≤ kx d p (-1) a q := by
      cases e : kx d p (-1) a q with
      | zero => exact absurd (by unfold rm; rw [e, Nat.zero_mul]) h3
      | succ n => omega
    have k2 : 1 * (d.lo a).toNat ≤ kx d p (-1) a q * (d.lo a).toNat := Nat.mul_le_mul_right _ k1
    have k3 : kx d p (-1) a q * (d.lo a).toNat ≤ min q (dep d p a).toNat := by
      unfold kx
      rw [if_neg (by omega)]
      exact (div_box l1).1
    have := bu_ge (lcs_one (p := p) hd ha (by omega) V (Nat.le_refl _) (by omega)) q (by omega)
    omega
  · intro h
    cases e : hw d p q V 0 with
    | true => rfl
    | false =>
      have s := hw_no V 0 e
      have u := lcs_srm (q := q) (p := p) (but := -1) hd V _ (Nat.le_refl _) (bu_le q) (bu_some (f := lcs d p (-1) V V) (by rw [lcs_0]; exact fun h => by cases h) q)
      rw [Nat.sub_self, s] at u
      omega
theorem cHas {m V q : Nat} {p : Int} {d : MD} {σ : Wd} (h : CV m σ V d) (hd : MDok d V) (hp : R p) (hl : σ.1 m 1 = I p) (hq : q ≤ 120) :
    f_X3_hasLotWithin m (I (q : Int)) σ = some (I (bn (decide (0 < bu (lcs d p (-1) V V) q))), σ) := by
  have h5 := hd.1
  have e := c_has h hd hp hl hq V 0 FU 0 rfl (by omega) (by show _ < 6000; omega)
  have eb : hw d p q V 0 = decide (0 < bu (lcs d p (-1) V V) q) := by
    cases c : hw d p q V 0 with
    | true => rw [decide_eq_true ((hw_bu hd).mp c)]
    | false => rw [decide_eq_false (fun q => by rw [(hw_bu hd).mpr q] at c; cases c)]
  rw [eb] at e
  exact e
/-- is anything under way -/
def nu (f : Nat → Int32) : Nat → Nat → Bool
  | 0, _ => true
  | r + 1, v => if f v = 0 then nu f r (v + 1) else false
theorem c_nu {b m V : Nat} {σ : Wd} (h : σ.1 m 3 = I (V : Int)) (hV : V ≤ 5) :
    ∀ (r v n : Nat) (z : Int), z = (v : Int) → v + r = V → r < n → f_X4_nothingUnderWay_2 b m n (I z) σ = some (I (bn (nu (σ.1 (b + 1)) r v)), σ)
  | 0, v, n + 1, z, hz, hv, _ => by
    rw [f_X4_nothingUnderWay_2]
    simp (disch := omega) only [gd_t, bd_s, nm_W, nm_I, I_add, I_sub, I_mul, I_neg, I_le_t, I_le_f, I_lt_t, I_lt_f, I_eq_t, I_eq_f, I_inb', I_ix', Int.toNat_natCast, decide_true, decide_false, Bool.not_false, Bool.not_true, if_true, if_false, wi_eq, wi_eq', wi_ne, wi_row, wi_2, N0, N1, N2, N3, N4, N5, N6, N7, N8, N9, N10, N11, N12, N13, N14, N15, N16, N17, N18, N19, N20, N21, N22, N23, N24, N25, N26, N27, N28, N29, N30, N31, N32, N33, N34, N35, N36, N37, N38, N39, N40, N41, N42, N43, N45, N48, N57, N59, N88, N89, N97, N99, N120, N121, N122, N179, N200, N255, N300, N400, N880, N900, N999, N1019, N50000000, N100000000, N1000000000, N2147483647, N2147483648, h, nu, bn_t, isb_1]
  | r + 1, v, n + 1, z, hz, hv, hn => by
    subst hz
    rw [nu]
    by_cases c : σ.1 (b + 1) v = 0
    · rw [if_pos c, f_X4_nothingUnderWay_2]
      simp (disch := omega) only [gd_t, bd_s, nm_W, nm_I, I_add, I_sub, I_mul, I_neg, I_le_t, I_le_f, I_lt_t, I_lt_f, I_eq_t, I_eq_f, I_inb', I_ix', Int.toNat_natCast, decide_true, decide_false, Bool.not_false, Bool.not_true, if_true, if_false, wi_eq, wi_eq', wi_ne, wi_row, wi_2, N1, N2, N3, N4, N5, N6, N7, N8, N9, N10, N11, N12, N13, N14, N15, N16, N17, N18, N19, N20, N21, N22, N23, N24, N25, N26, N27, N28, N29, N30, N31, N32, N33, N34, N35, N36, N37, N38, N39, N40, N41, N42, N43, N45, N48, N57, N59, N88, N89, N97, N99, N120, N121, N122, N179, N200, N255, N300, N400, N880, N900, N999, N1019, N50000000, N100000000, N1000000000, N2147483647, N2147483648, h]
      rw [if_pos c]
      exact c_nu h hV r (v + 1) n _ (by omega) (by omega) (by omega)
    · rw [if_neg c, f_X4_nothingUnderWay_2]
      simp (disch := omega) only [gd_t, bd_s, nm_W, nm_I, I_add, I_sub, I_mul, I_neg, I_le_t, I_le_f, I_lt_t, I_lt_f, I_eq_t, I_eq_f, I_inb', I_ix', Int.toNat_natCast, decide_true, decide_false, Bool.not_false, Bool.not_true, if_true, if_false, wi_eq, wi_eq', wi_ne, wi_row, wi_2, N1, N2, N3, N4, N5, N6, N7, N8, N9, N10, N11, N12, N13, N14, N15, N16, N17, N18, N19, N20, N21, N22, N23, N24, N25, N26, N27, N28, N29, N30, N31, N32, N33, N34, N35, N36, N37, N38, N39, N40, N41, N42, N43, N45, N48, N57, N59, N88, N89, N97, N99, N120, N121, N122, N179, N200, N255, N300, N400, N880, N900, N999, N1019, N50000000, N100000000, N1000000000, N2147483647, N2147483648, h]
      rw [if_neg c]
      rfl
theorem r_nu {V : Nat} {τ : Wd} {f : Nat → Int32} (h : τ.1 102 14 = I (V : Int)) (hV : V ≤ 5) (hf : ∀ v, v < V → τ.1 112 (48 + 8 * v) = f v) :
    ∀ (r v n : Nat) (z : Int), z = (v : Int) → v + r = V → r < n → f_X7_isUnderWay_2 n (I z) τ = some (I (bn (!nu f r v)), τ)
  | 0, v, n + 1, z, hz, hv, _ => by
    rw [f_X7_isUnderWay_2]
    simp (disch := omega) only [gd_t, bd_s, nm_W, nm_I, I_add, I_sub, I_mul, I_neg, I_le_t, I_le_f, I_lt_t, I_lt_f, I_eq_t, I_eq_f, I_inb', I_ix', Int.toNat_natCast, decide_true, decide_false, Bool.not_false, Bool.not_true, if_true, if_false, wi_eq, wi_eq', wi_ne, wi_row, wi_2, N0, N1, N2, N3, N4, N5, N6, N7, N8, N9, N10, N11, N12, N13, N14, N15, N16, N17, N18, N19, N20, N21, N22, N23, N24, N25, N26, N27, N28, N29, N30, N31, N32, N33, N34, N35, N36, N37, N38, N39, N40, N41, N42, N43, N45, N48, N57, N59, N88, N89, N97, N99, N120, N121, N122, N179, N200, N255, N300, N400, N880, N900, N999, N1019, N50000000, N100000000, N1000000000, N2147483647, N2147483648, h, nu, bn_f, isb_0]
  | r + 1, v, n + 1, z, hz, hv, hn => by
    subst hz
    have t1 : ((48 : Int) + 8 * (v : Int) + 0).toNat = 48 + 8 * v := by omega
    have e : f_X7_partIs (I (v : Int)) 0 τ = some (f v, τ) := by
      unfold f_X7_partIs f_X7_partAt
      simp (disch := omega) only [gd_t, bd_s, nm_W, nm_I, I_add, I_sub, I_mul, I_neg, I_le_t, I_le_f, I_lt_t, I_lt_f, I_eq_t, I_eq_f, I_inb', I_ix', Int.toNat_natCast, decide_true, decide_false, Bool.not_false, Bool.not_true, if_true, if_false, wi_eq, wi_eq', wi_ne, wi_row, wi_2, N0, N1, N2, N3, N4, N5, N6, N7, N8, N9, N10, N11, N12, N13, N14, N15, N16, N17, N18, N19, N20, N21, N22, N23, N24, N25, N26, N27, N28, N29, N30, N31, N32, N33, N34, N35, N36, N37, N38, N39, N40, N41, N42, N43, N45, N48, N57, N59, N88, N89, N97, N99, N120, N121, N122, N179, N200, N255, N300, N400, N880, N900, N999, N1019, N50000000, N100000000, N1000000000, N2147483647, N2147483648, t1, hf v (by omega)]
    rw [nu]
    by_cases c : f v = 0
    · rw [if_pos c, f_X7_isUnderWay_2]
      simp (disch := omega) only [gd_t, bd_s, nm_W, nm_I, I_add, I_sub, I_mul, I_neg, I_le_t, I_le_f, I_lt_t, I_lt_f, I_eq_t, I_eq_f, I_inb', I_ix', Int.toNat_natCast, decide_true, decide_false, Bool.not_false, Bool.not_true, if_true, if_false, wi_eq, wi_eq', wi_ne, wi_row, wi_2, N1, N2, N3, N4, N5, N6, N7, N8, N9, N10, N11, N12, N13, N14, N15, N16, N17, N18, N19, N20, N21, N22, N23, N24, N25, N26, N27, N28, N29, N30, N31, N32, N33, N34, N35, N36, N37, N38, N39, N40, N41, N42, N43, N45, N48, N57, N59, N88, N89, N97, N99, N120, N121, N122, N179, N200, N255, N300, N400, N880, N900, N999, N1019, N50000000, N100000000, N1000000000, N2147483647, N2147483648, h, e]
      rw [if_pos c]
      exact r_nu h hV hf r (v + 1) n _ (by omega) (by omega) (by omega)
    · rw [if_neg c, f_X7_isUnderWay_2]
      simp (disch := omega) only [gd_t, bd_s, nm_W, nm_I, I_add, I_sub, I_mul, I_neg, I_le_t, I_le_f, I_lt_t, I_lt_f, I_eq_t, I_eq_f, I_inb', I_ix', Int.toNat_natCast, decide_true, decide_false, Bool.not_false, Bool.not_true, if_true, if_false, wi_eq, wi_eq', wi_ne, wi_row, wi_2, N1, N2, N3, N4, N5, N6, N7, N8, N9, N10, N11, N12, N13, N14, N15, N16, N17, N18, N19, N20, N21, N22, N23, N24, N25, N26, N27, N28, N29, N30, N31, N32, N33, N34, N35, N36, N37, N38, N39, N40, N41, N42, N43, N45, N48, N57, N59, N88, N89, N97, N99, N120, N121, N122, N179, N200, N255, N300, N400, N880, N900, N999, N1019, N50000000, N100000000, N1000000000, N2147483647, N2147483648, h, e]
      rw [if_neg c]
      rfl
