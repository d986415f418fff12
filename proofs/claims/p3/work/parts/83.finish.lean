/-! PURE: a part ends -/
theorem nn_msb (x : Int32) : (0 ≤ x) ↔ x.toBitVec.msb = false := by
  rw [Int32.le_iff_toInt_le, show (0 : Int32).toInt = 0 from rfl, BitVec.msb_eq_toInt, decide_eq_false_iff_not]
  show 0 ≤ x.toBitVec.toInt ↔ _
  omega
theorem nn_xor {x y : Int32} (h : 0 ≤ y) : (0 ≤ x ^^^ y) ↔ 0 ≤ x := by
  rw [nn_msb, nn_msb, Int32.toBitVec_xor, BitVec.msb_xor, (nn_msb y).mp h, Bool.xor_false]
def fl (A n : Int) : Int := if A.tmod n = 0 then A.tdiv n else if 0 ≤ A then A.tdiv n else A.tdiv n - 1
theorem I_tdiv {A n : Int} (hA : R A) (h1 : 1 ≤ n) (h2 : n ≤ 120) : I A / I n = I (A.tdiv n) := by
  have hb1 : I n ≠ -1 := by
    intro h
    rw [show (-1 : Int32) = I (-1) from rfl, I_eq (by unfold R; omega) (by unfold R; omega)] at h
    omega
  rw [← I_of (I A / I n), Int32.toInt_div_of_ne_right _ _ hb1, I_toInt hA, I_toInt (by unfold R; omega)]
theorem I_tmod {A n : Int} (hA : R A) (h1 : 1 ≤ n) (h2 : n ≤ 120) : I A % I n = I (A.tmod n) := by
  rw [← I_of (I A % I n), Int32.toInt_mod, I_toInt hA, I_toInt (by unfold R; omega)]
theorem tmod_bnd {A n : Int} (h1 : 1 ≤ n) : -n < A.tmod n ∧ A.tmod n < n := by
  by_cases c : 0 ≤ A
  · rw [Int.tmod_eq_emod_of_nonneg c]
    have := Int.emod_nonneg A (show n ≠ 0 by omega)
    have := Int.emod_lt_of_pos A (show 0 < n by omega)
    omega
  · have e := Int.neg_tmod A n
    rw [Int.tmod_eq_emod_of_nonneg (show 0 ≤ -A by omega)] at e
    have := Int.emod_nonneg (-A) (show n ≠ 0 by omega)
    have := Int.emod_lt_of_pos (-A) (show 0 < n by omega)
    omega
theorem rLower {A n : Int} {τ : Wd} (hA : R A) (h1 : 1 ≤ n) (h2 : n ≤ 120) : f_X7_lower (I A) (I n) τ = some (I (fl A n), τ) := by
  have mb := tmod_bnd (A := A) h1
  have e1 := I_tdiv hA h1 h2
  have e2 := I_tmod hA h1 h2
  unfold R at hA
  unfold f_X7_lower fl
  by_cases c1 : A.tmod n = 0
  · rw [if_pos c1]
    simp (disch := omega) only [gd_t, bd_s, nm_W, nm_I, I_add, I_sub, I_mul, I_neg, I_le_t, I_le_f, I_lt_t, I_lt_f, I_eq_t, I_eq_f, I_inb', I_ix', Int.toNat_natCast, decide_true, decide_false, Bool.not_false, Bool.not_true, if_true, if_false, wi_eq, wi_eq', wi_ne, wi_row, wi_2, N0, N1, N2, N3, N4, N5, N6, N7, N8, N9, N10, N11, N12, N13, N14, N15, N16, N17, N18, N19, N20, N21, N22, N23, N24, N25, N26, N27, N28, N29, N30, N31, N32, N33, N34, N35, N36, N37, N38, N39, N40, N41, N42, N43, N45, N48, N57, N59, N88, N89, N97, N99, N120, N121, N122, N179, N200, N255, N300, N400, N880, N900, N999, N1019, N50000000, N100000000, N1000000000, N2147483647, N2147483648, e1, e2, f_X7_lower_20, f_X7_lower_21]
  · rw [if_neg c1]
    by_cases c2 : 0 ≤ A
    · rw [if_pos c2]
      simp (disch := omega) only [gd_t, bd_s, nm_W, nm_I, I_add, I_sub, I_mul, I_neg, I_le_t, I_le_f, I_lt_t, I_lt_f, I_eq_t, I_eq_f, I_inb', I_ix', Int.toNat_natCast, decide_true, decide_false, Bool.not_false, Bool.not_true, if_true, if_false, wi_eq, wi_eq', wi_ne, wi_row, wi_2, N0, N1, N2, N3, N4, N5, N6, N7, N8, N9, N10, N11, N12, N13, N14, N15, N16, N17, N18, N19, N20, N21, N22, N23, N24, N25, N26, N27, N28, N29, N30, N31, N32, N33, N34, N35, N36, N37, N38, N39, N40, N41, N42, N43, N45, N48, N57, N59, N88, N89, N97, N99, N120, N121, N122, N179, N200, N255, N300, N400, N880, N900, N999, N1019, N50000000, N100000000, N1000000000, N2147483647, N2147483648, e1, e2, f_X7_lower_20, f_X7_lower_21]
    · rw [if_neg c2]
      simp (disch := omega) only [gd_t, bd_s, nm_W, nm_I, I_add, I_sub, I_mul, I_neg, I_le_t, I_le_f, I_lt_t, I_lt_f, I_eq_t, I_eq_f, I_inb', I_ix', Int.toNat_natCast, decide_true, decide_false, Bool.not_false, Bool.not_true, if_true, if_false, wi_eq, wi_eq', wi_ne, wi_row, wi_2, N0, N1, N2, N3, N4, N5, N6, N7, N8, N9, N10, N11, N12, N13, N14, N15, N16, N17, N18, N19, N20, N21, N22, N23, N24, N25, N26, N27, N28, N29, N30, N31, N32, N33, N34, N35, N36, N37, N38, N39, N40, N41, N42, N43, N45, N48, N57, N59, N88, N89, N97, N99, N120, N121, N122, N179, N200, N255, N300, N400, N880, N900, N999, N1019, N50000000, N100000000, N1000000000, N2147483647, N2147483648, e1, e2, f_X7_lower_20, f_X7_lower_21]
theorem cFloor {A n : Int} {σ : Wd} (hA : R A) (h1 : 1 ≤ n) (h2 : n ≤ 120) : f_J9_floorDiv_7cf53 (I A) (I n) σ = some (I (fl A n), σ) := by
  have mb := tmod_bnd (A := A) h1
  have e1 := I_tdiv hA h1 h2
  have em := Int.mul_tdiv_add_tmod A n
  have en : (0 : Int32) ≤ I n := by
    show I 0 ≤ I n
    rw [I_le (by unfold R; omega) (by unfold R; omega)]; omega
  have ex : ((0 : Int32) ≤ I A ^^^ I n) ↔ 0 ≤ A := by
    rw [nn_xor en, show (0 : Int32) = I 0 from rfl, I_le (by unfold R; omega) hA]
  have n0 : (!decide (I n = 0)) = true := by
    have : ¬ I n = I 0 := by rw [I_eq (by unfold R; omega) (by unfold R; omega)]; omega
    rw [show (0 : Int32) = I 0 from rfl, decide_eq_false this]
    rfl
  have sg : (0 ≤ A → 0 ≤ A.tmod n) ∧ (A ≤ 0 → A.tmod n ≤ 0) := ⟨fun h => Int.tmod_nonneg n h, fun h => by
    have := Int.tmod_nonneg (a := -A) n (by omega)
    rw [Int.neg_tmod] at this
    omega⟩
  have hA' := hA
  unfold R at hA'
  have er : (I (A.tdiv n) * I n = I A) ↔ A.tmod n = 0 := by
    rw [I_mul, Int.mul_comm, I_eq (by unfold R; omega) hA]
    omega
  unfold f_J9_floorDiv_7cf53 f_J9_floorDiv_7cf53_21 fl
  rw [n0, e1]
  show (if (0 : Int32) ≤ I A ^^^ I n then _ else if I (A.tdiv n) * I n = I A then _ else _) = _
  by_cases c2 : 0 ≤ A
  · rw [if_pos (ex.mpr c2)]
    by_cases c1 : A.tmod n = 0
    · rw [if_pos c1]
    · rw [if_neg c1, if_pos c2]
  · rw [if_neg (fun q => c2 (ex.mp q))]
    by_cases c1 : A.tmod n = 0
    · rw [if_pos (er.mpr c1), if_pos c1]
    · rw [if_neg (fun q => c1 (er.mp q)), if_neg c1, if_neg c2, show (1 : Int32) = I 1 from rfl, I_sub]
def finC (r v : Nat) (ow x u : Int32) (σ : Wd) : Wd := wi (wi (wi (wi (wi σ (r + 4) v (σ.1 (r + 4) v + ow)) r 4 (σ.1 r 4 + ow)) r 5 (σ.1 r 5 + (σ.1 (r + 4) v + ow - x))) (r + 1) v (I 3)) (r + 7) v u
def finR (v : Nat) (ow x u : Int32) (τ : Wd) : Wd := wi (wi (wi (wi (wi τ 112 40 (τ.1 112 40 + ow)) 112 41 (τ.1 112 41 + (τ.1 112 (55 + 8 * v) + ow - x))) 112 (48 + 8 * v) (I 3)) 112 (53 + 8 * v) u) 112 (54 + 8 * v) (I (-2))
theorem fin_ok {m r V v : Nat} {d : MD} {σ τ : Wd} {n g t D : Int} (hm : 10 < m) (hmr : m + 12 < r) (hv : v < V) (hd : MDok d V) (hc : CV m σ V d) (hr : RV τ V d)
    (sn : σ.1 (r + 2) v = I n) (sg : σ.1 (r + 3) v = I g) (tn : τ.1 112 (49 + 8 * v) = I n) (tg : τ.1 112 (50 + 8 * v) = I g) (th : τ.1 112 (51 + 8 * v) = σ.1 (r + 5) v) (st : σ.1 r 1 = I t) (tt : τ.1 112 37 = I t) (sd : σ.1 (m + 5) v = I D) (td : τ.1 103 (5 * v + 3) = I D)
    (g0 : 0 ≤ g) (gn : g ≤ n) (n0 : 1 ≤ n) (n1 : n ≤ 120) :
    ∃ ow x : Int32, f_X4_finish r m (I (v : Int)) σ = some (0, finC r v ow x (I (t + D)) σ) ∧ f_X7_endsPart (I (v : Int)) τ = some (0, finR v ow x (I (t + D)) τ) := by
  have v5 : v < 5 := Nat.lt_of_lt_of_le hv hd.1
  have ec := cCharge hc hd hv (n := g) (by omega) (by omega)
  have rc' : ∀ τ', RV τ' V d → f_X7_chargeOf (I (v : Int)) (I g) τ' = some (I (chg (d.kd v) (d.fe v) (d.le v) g), τ') := fun τ' h => rCharge h hd hv (n := g) (by omega) (by omega)
  obtain ⟨A, hA⟩ : ∃ A, A = (σ.1 (r + 5) v * I g).toInt := ⟨_, rfl⟩
  have hAR : R A := by rw [hA]; exact toInt_R _
  have eA : σ.1 (r + 5) v * I g = I A := by rw [hA, I_of]
  have t0 : ((48 : Int) + 8 * (v : Int) + 0).toNat = 48 + 8 * v := by omega
  have t1 : ((48 : Int) + 8 * (v : Int) + 1).toNat = 49 + 8 * v := by omega
  have t2 : ((48 : Int) + 8 * (v : Int) + 2).toNat = 50 + 8 * v := by omega
  have t3 : ((48 : Int) + 8 * (v : Int) + 3).toNat = 51 + 8 * v := by omega
  have t5 : ((48 : Int) + 8 * (v : Int) + 5).toNat = 53 + 8 * v := by omega
  have t6 : ((48 : Int) + 8 * (v : Int) + 6).toNat = 54 + 8 * v := by omega
  have t7 : ((48 : Int) + 8 * (v : Int) + 7).toNat = 55 + 8 * v := by omega
  have t40 : Int.toNat 40 = 40 := rfl
  have t41 : Int.toNat 41 = 41 := rfl
  have t37 : Int.toNat 37 = 37 := rfl
  have told : ∀ τ' : Wd, f_X7_told (I (v : Int)) (I 3) τ' = some (τ'.1 103 (5 * v + 3), τ') := fun τ' => told7 (σ := τ') 3 v5 (by decide)
  refine ⟨I (chg (d.kd v) (d.fe v) (d.le v) g), I (fl A n), ?_, ?_⟩
  · unfold f_X4_finish finC
    simp (disch := omega) only [gd_t, bd_s, nm_W, nm_I, I_add, I_sub, I_mul, I_neg, I_le_t, I_le_f, I_lt_t, I_lt_f, I_eq_t, I_eq_f, I_inb', I_ix', Int.toNat_natCast, decide_true, decide_false, Bool.not_false, Bool.not_true, if_true, if_false, wi_eq, wi_eq', wi_ne, wi_row, wi_2, N0, N1, N2, N3, N4, N5, N6, N7, N8, N9, N10, N11, N12, N13, N14, N15, N16, N17, N18, N19, N20, N21, N22, N23, N24, N25, N26, N27, N28, N29, N30, N31, N32, N33, N34, N35, N36, N37, N38, N39, N40, N41, N42, N43, N45, N48, N57, N59, N88, N89, N97, N99, N120, N121, N122, N179, N200, N255, N300, N400, N880, N900, N999, N1019, N50000000, N100000000, N1000000000, N2147483647, N2147483648, sg, ec, sn, eA, cFloor hAR n0 n1, f_X4_finish_79, st, sd]
  · unfold f_X7_endsPart finR f_X7_partAt
    simp (disch := omega) only [gd_t, bd_s, nm_W, nm_I, I_add, I_sub, I_mul, I_neg, I_le_t, I_le_f, I_lt_t, I_lt_f, I_eq_t, I_eq_f, I_inb', I_ix', Int.toNat_natCast, decide_true, decide_false, Bool.not_false, Bool.not_true, if_true, if_false, wi_eq, wi_eq', wi_ne, wi_row, wi_2, N0, N1, N2, N3, N4, N5, N6, N7, N8, N9, N10, N11, N12, N13, N14, N15, N16, N17, N18, N19, N20, N21, N22, N23, N24, N25, N26, N27, N28, N29, N30, N31, N32, N33, N34, N35, N36, N37, N38, N39, N40, N41, N42, N43, N45, N48, N57, N59, N88, N89, N97, N99, N120, N121, N122, N179, N200, N255, N300, N400, N880, N900, N999, N1019, N50000000, N100000000, N1000000000, N2147483647, N2147483648, t0, t1, t2, t3, t5, t6, t7, t40, t41, t37, tg, rc' τ hr, tn, th, eA, rLower hAR n0 n1, told, tt, td]
