/-! PURE: the class' greedy split -/
theorem rm_iff {d : MD} {V v q : Nat} {p : Int} {a : Nat → Nat} {left : Int} (hd : MDok d V) (hv : v < V) (hg : GB d a V left q) (hl : d.lo v ≤ left) : gn d a v + d.lo v ≤ (rm d p (-1) q v : Int) ↔ gn d a v + d.lo v ≤ dep d p v := by
  obtain ⟨-, lb, -⟩ := hd.2 v hv
  have db := dep_bnd (p := p) hd hv
  have g1 := hg.2.2 v hv
  have l1 : 1 ≤ (d.lo v).toNat := by omega
  have e : gn d a v + d.lo v = (((a v + 1) * (d.lo v).toNat : Nat) : Int) := by
    unfold gn
    rw [Nat.succ_mul]
    omega
  have k : rm d p (-1) q v = min q (dep d p v).toNat / (d.lo v).toNat * (d.lo v).toNat := by
    unfold rm kx
    rw [if_neg (by omega)]
  obtain ⟨k1, k2⟩ := div_box (M := min q (dep d p v).toNat) l1
  rw [e, k]
  constructor
  · intro h
    omega
  · intro h
    have : (a v + 1) * (d.lo v).toNat ≤ min q (dep d p v).toNat := by omega
    have := Nat.mul_le_mul_right (d.lo v).toNat ((Nat.le_div_iff_mul_le (by omega)).mpr this)
    omega
theorem cNext {σ : Wd} {V v q : Nat} {p : Int} {d : MD} {a : Nat → Nat} {left : Int} (hd : MDok d V) (hv : v < V) (hg : GB d a V left q) (ha : σ.1 5 v = I (gn d a v)) (hr : PR d p (-1) V q σ) (hl : d.lo v ≤ left) (hdp : gn d a v + d.lo v ≤ dep d p v) :
    f_X1_nextLotCost (I (v : Int)) (I (d.lo v)) σ = some (I (nx d a v), σ) := by
  have v5 : v < 5 := Nat.lt_of_lt_of_le hv hd.1
  obtain ⟨-, lb, -⟩ := hd.2 v hv
  have g0 := gn_nn (d := d) (a := a) (v := v)
  have g1 := hg.2.2 v hv
  have g2 := hg.2.1
  have g3 := hg.1
  have hrm := (rm_iff (p := p) hd hv hg hl).mpr hdp
  have l1 : 1 ≤ (d.lo v).toNat := by omega
  have e : gn d a v + d.lo v = (((a v + 1) * (d.lo v).toNat : Nat) : Int) := by
    unfold gn
    rw [Nat.succ_mul]
    omega
  have ak : a v + 1 ≤ kx d p (-1) v q := by
    have : (a v + 1) * (d.lo v).toNat ≤ kx d p (-1) v q * (d.lo v).toNat := by
      rw [e] at hrm
      unfold rm at hrm
      omega
    exact Nat.le_of_mul_le_mul_right this (by omega)
  have e1 := (hr v hv).2 (a v + 1) ak
  have e2 := (hr v hv).2 (a v) (by omega)
  rw [← e] at e1
  rw [show ((a v * (d.lo v).toNat : Nat) : Int) = gn d a v from rfl] at e2
  have t1 : ((v : Int) * 121 + gn d a v + d.lo v).toNat = 121 * v + (a v + 1) * (d.lo v).toNat := by omega
  have t2 : ((v : Int) * 121 + gn d a v).toNat = 121 * v + a v * (d.lo v).toNat := by unfold gn; omega
  unfold f_X1_nextLotCost nx
  simp (disch := omega) only [gd_t, bd_s, nm_W, nm_I, I_add, I_sub, I_mul, I_neg, I_le_t, I_le_f, I_lt_t, I_lt_f, I_eq_t, I_eq_f, I_inb', I_ix', Int.toNat_natCast, decide_true, decide_false, Bool.not_false, Bool.not_true, if_true, if_false, wi_eq, wi_eq', wi_ne, wi_row, wi_2, N0, N1, N2, N3, N4, N5, N6, N7, N8, N9, N10, N11, N12, N13, N14, N15, N16, N17, N18, N19, N20, N21, N22, N23, N24, N25, N26, N27, N28, N29, N30, N31, N32, N33, N34, N35, N36, N37, N38, N39, N40, N41, N42, N43, N45, N48, N57, N59, N88, N89, N97, N99, N120, N121, N122, N179, N200, N255, N300, N400, N880, N900, N999, N1019, N50000000, N100000000, N1000000000, N2147483647, N2147483648, ha, t1, t2, e1, e2]
theorem c_gs {m : Nat} {σ : Wd} {V q : Nat} {p left : Int} {d : MD} {a : Nat → Nat} (h : CV m σ V d) (hd : MDok d V) (hg : GB d a V left q) (ha : ∀ v, v < V → σ.1 5 v = I (gn d a v)) (hr : PR d p (-1) V q σ) :
    ∀ (r v n : Nat) (b xc xl z : Int), z = (v : Int) → r < n → v + r = V → okl d p left a V b → (b ≠ -1 → xc = nx d a b.toNat ∧ xl = d.lo b.toNat) →
      f_X1_cheapestNextLot_11 m n (I left) (I b) (I xc) (I xl) (I z) σ = some (I (gs d p left a r v b), σ)
  | 0, v, n + 1, b, xc, xl, z, hz, _, hv, _, _ => by
    have h5 := hd.1
    rw [f_X1_cheapestNextLot_11]
    simp (disch := omega) only [gd_t, bd_s, nm_W, nm_I, I_add, I_sub, I_mul, I_neg, I_le_t, I_le_f, I_lt_t, I_lt_f, I_eq_t, I_eq_f, I_inb', I_ix', Int.toNat_natCast, decide_true, decide_false, Bool.not_false, Bool.not_true, if_true, if_false, wi_eq, wi_eq', wi_ne, wi_row, wi_2, N0, N1, N2, N3, N4, N5, N6, N7, N8, N9, N10, N11, N12, N13, N14, N15, N16, N17, N18, N19, N20, N21, N22, N23, N24, N25, N26, N27, N28, N29, N30, N31, N32, N33, N34, N35, N36, N37, N38, N39, N40, N41, N42, N43, N45, N48, N57, N59, N88, N89, N97, N99, N120, N121, N122, N179, N200, N255, N300, N400, N880, N900, N999, N1019, N50000000, N100000000, N1000000000, N2147483647, N2147483648, h.1, gs]
  | r + 1, v, n + 1, b, xc, xl, z, hz, hn, hv, hb, hx => by
    subst hz
    have h5 := hd.1
    have hvV : v < V := by omega
    obtain ⟨-, lb, -⟩ := hd.2 v hvV
    have g0 := gn_nn (d := d) (a := a) (v := v)
    have g1 := hg.2.2 v hvV
    have g2 := hg.2.1
    have g3 := hg.1
    have db := dep_bnd (p := p) hd hvV
    have nb := nx_bnd hd hg hvV
    have rb := rm_le (p := p) (but := -1) (q := q) hd hvV
    have ih := fun b xc xl (hb : okl d p left a V b) hx => c_gs (p := p) h hd hg ha hr r (v + 1) n b xc xl ((v : Int) + 1) (by omega) (by omega) (by omega) hb hx
    rw [gs]
    by_cases c1 : d.lo v ≤ left
    · have ri := rm_iff (p := p) hd hvV hg c1
      by_cases c2 : gn d a v + d.lo v ≤ dep d p v
      · have hvb : okl d p left a V (v : Int) := Or.inr ⟨by omega, by omega, by rw [Int.toNat_natCast]; exact c1, by rw [Int.toNat_natCast]; exact c2⟩
        have ev := cNext hd hvV hg (ha v hvV) hr c1 c2
        have c2' := ri.mpr c2
        rw [if_pos ⟨c1, c2⟩]
        by_cases c3 : b = -1
        · rw [if_pos c3]
          rw [f_X1_cheapestNextLot_11]
          simp (disch := omega) only [gd_t, bd_s, nm_W, nm_I, I_add, I_sub, I_mul, I_neg, I_le_t, I_le_f, I_lt_t, I_lt_f, I_eq_t, I_eq_f, I_inb', I_ix', Int.toNat_natCast, decide_true, decide_false, Bool.not_false, Bool.not_true, if_true, if_false, wi_eq, wi_eq', wi_ne, wi_row, wi_2, N0, N1, N2, N3, N4, N5, N6, N7, N8, N9, N10, N11, N12, N13, N14, N15, N16, N17, N18, N19, N20, N21, N22, N23, N24, N25, N26, N27, N28, N29, N30, N31, N32, N33, N34, N35, N36, N37, N38, N39, N40, N41, N42, N43, N45, N48, N57, N59, N88, N89, N97, N99, N120, N121, N122, N179, N200, N255, N300, N400, N880, N900, N999, N1019, N50000000, N100000000, N1000000000, N2147483647, N2147483648, h.1, cLot h hd hvV, ha v hvV, (hr v hvV).1, ev, f_X1_cheapestNextLot_85, f_X1_cheapestNextLot_96]
          exact ih _ _ _ hvb (fun _ => ⟨by rw [Int.toNat_natCast], by rw [Int.toNat_natCast]⟩)
        · rw [if_neg c3]
          obtain ⟨x1, x2⟩ := hx c3
          rcases hb with hb | ⟨b1, b2, b3, b4⟩
          · exact absurd hb c3
          · obtain ⟨w, rfl⟩ := Int.eq_ofNat_of_zero_le b1
            have hw : w < V := by omega
            rw [Int.toNat_natCast] at b3 b4 x1 x2 ⊢
            obtain ⟨-, lw, -⟩ := hd.2 w hw
            have nw := nx_bnd hd hg hw
            have m1 := lo_mul nb.1 nb.2 lw.1 lw.2
            have m2 := lo_mul nw.1 nw.2 lb.1 lb.2
            rw [x1, x2]
            by_cases c4 : nx d a v * d.lo w < nx d a w * d.lo v
            · rw [if_pos c4]
              rw [f_X1_cheapestNextLot_11]
              simp (disch := omega) only [gd_t, bd_s, nm_W, nm_I, I_add, I_sub, I_mul, I_neg, I_le_t, I_le_f, I_lt_t, I_lt_f, I_eq_t, I_eq_f, I_inb', I_ix', Int.toNat_natCast, decide_true, decide_false, Bool.not_false, Bool.not_true, if_true, if_false, wi_eq, wi_eq', wi_ne, wi_row, wi_2, N0, N1, N2, N3, N4, N5, N6, N7, N8, N9, N10, N11, N12, N13, N14, N15, N16, N17, N18, N19, N20, N21, N22, N23, N24, N25, N26, N27, N28, N29, N30, N31, N32, N33, N34, N35, N36, N37, N38, N39, N40, N41, N42, N43, N45, N48, N57, N59, N88, N89, N97, N99, N120, N121, N122, N179, N200, N255, N300, N400, N880, N900, N999, N1019, N50000000, N100000000, N1000000000, N2147483647, N2147483648, h.1, cLot h hd hvV, ha v hvV, (hr v hvV).1, ev, f_X1_cheapestNextLot_85, f_X1_cheapestNextLot_96]
              exact ih _ _ _ hvb (fun _ => ⟨by rw [Int.toNat_natCast], by rw [Int.toNat_natCast]⟩)
            · rw [if_neg c4]
              rw [f_X1_cheapestNextLot_11]
              simp (disch := omega) only [gd_t, bd_s, nm_W, nm_I, I_add, I_sub, I_mul, I_neg, I_le_t, I_le_f, I_lt_t, I_lt_f, I_eq_t, I_eq_f, I_inb', I_ix', Int.toNat_natCast, decide_true, decide_false, Bool.not_false, Bool.not_true, if_true, if_false, wi_eq, wi_eq', wi_ne, wi_row, wi_2, N0, N1, N2, N3, N4, N5, N6, N7, N8, N9, N10, N11, N12, N13, N14, N15, N16, N17, N18, N19, N20, N21, N22, N23, N24, N25, N26, N27, N28, N29, N30, N31, N32, N33, N34, N35, N36, N37, N38, N39, N40, N41, N42, N43, N45, N48, N57, N59, N88, N89, N97, N99, N120, N121, N122, N179, N200, N255, N300, N400, N880, N900, N999, N1019, N50000000, N100000000, N1000000000, N2147483647, N2147483648, h.1, cLot h hd hvV, ha v hvV, (hr v hvV).1, ev, f_X1_cheapestNextLot_85, f_X1_cheapestNextLot_96]
              exact ih _ _ _ (Or.inr ⟨b1, b2, by rw [Int.toNat_natCast]; exact b3, by rw [Int.toNat_natCast]; exact b4⟩) (fun _ => ⟨by rw [Int.toNat_natCast], by rw [Int.toNat_natCast]⟩)
      · have c2' : ¬ gn d a v + d.lo v ≤ (rm d p (-1) q v : Int) := fun q => c2 (ri.mp q)
        rw [if_neg (fun q => c2 q.2)]
        rw [f_X1_cheapestNextLot_11]
        simp (disch := omega) only [gd_t, bd_s, nm_W, nm_I, I_add, I_sub, I_mul, I_neg, I_le_t, I_le_f, I_lt_t, I_lt_f, I_eq_t, I_eq_f, I_inb', I_ix', Int.toNat_natCast, decide_true, decide_false, Bool.not_false, Bool.not_true, if_true, if_false, wi_eq, wi_eq', wi_ne, wi_row, wi_2, N0, N1, N2, N3, N4, N5, N6, N7, N8, N9, N10, N11, N12, N13, N14, N15, N16, N17, N18, N19, N20, N21, N22, N23, N24, N25, N26, N27, N28, N29, N30, N31, N32, N33, N34, N35, N36, N37, N38, N39, N40, N41, N42, N43, N45, N48, N57, N59, N88, N89, N97, N99, N120, N121, N122, N179, N200, N255, N300, N400, N880, N900, N999, N1019, N50000000, N100000000, N1000000000, N2147483647, N2147483648, h.1, cLot h hd hvV, ha v hvV, (hr v hvV).1, f_X1_cheapestNextLot_85, f_X1_cheapestNextLot_96]
        exact ih _ _ _ hb hx
    · rw [if_neg (fun q => c1 q.1)]
      rw [f_X1_cheapestNextLot_11]
      simp (disch := omega) only [gd_t, bd_s, nm_W, nm_I, I_add, I_sub, I_mul, I_neg, I_le_t, I_le_f, I_lt_t, I_lt_f, I_eq_t, I_eq_f, I_inb', I_ix', Int.toNat_natCast, decide_true, decide_false, Bool.not_false, Bool.not_true, if_true, if_false, wi_eq, wi_eq', wi_ne, wi_row, wi_2, N0, N1, N2, N3, N4, N5, N6, N7, N8, N9, N10, N11, N12, N13, N14, N15, N16, N17, N18, N19, N20, N21, N22, N23, N24, N25, N26, N27, N28, N29, N30, N31, N32, N33, N34, N35, N36, N37, N38, N39, N40, N41, N42, N43, N45, N48, N57, N59, N88, N89, N97, N99, N120, N121, N122, N179, N200, N255, N300, N400, N880, N900, N999, N1019, N50000000, N100000000, N1000000000, N2147483647, N2147483648, h.1, cLot h hd hvV, ha v hvV, f_X1_cheapestNextLot_85, f_X1_cheapestNextLot_96]
      exact ih _ _ _ hb hx
theorem c_gr {m V q : Nat} {p : Int} {d : MD} (hm : 10 < m) (hd : MDok d V) :
    ∀ (r n : Nat) (left z : Int) (a : Nat → Nat) (σ : Wd), z + (r : Int) = 120 ∧ 0 ≤ z → r < n → left ≤ (r : Int) → CV m σ V d → PR d p (-1) V q σ → GB d a V left q → (∀ v, v < V → σ.1 5 v = I (gn d a v)) →
      σ.1 4 0 = I ((q : Int) - left) → σ.1 4 1 = I (sc d a V 0) →
      ∃ σ', f_X1_chooseGreedily_43 m n (I (q : Int)) (I z) σ = some (0, σ') ∧ σ'.1 4 0 = I ((q : Int) - (gr d p V r a left).2) ∧ σ'.1 4 1 = I (sc d (gr d p V r a left).1 V 0)
        ∧ (∀ v, v < V → σ'.1 5 v = I (gn d (gr d p V r a left).1 v)) ∧ (∀ k, k ≠ 4 → k ≠ 5 → σ'.1 k = σ.1 k) ∧ σ'.2 = σ.2
  | 0, n + 1, left, z, a, σ, hz, hn, hr, h, hp, hg, ha, h0, h1 => by
    refine ⟨σ, ?_, h0, h1, ha, fun _ _ _ => rfl, rfl⟩
    rw [f_X1_chooseGreedily_43]
    simp (disch := omega) only [gd_t, bd_s, nm_W, nm_I, I_add, I_sub, I_mul, I_neg, I_le_t, I_le_f, I_lt_t, I_lt_f, I_eq_t, I_eq_f, I_inb', I_ix', Int.toNat_natCast, decide_true, decide_false, Bool.not_false, Bool.not_true, if_true, if_false, wi_eq, wi_eq', wi_ne, wi_row, wi_2, N0, N1, N2, N3, N4, N5, N6, N7, N8, N9, N10, N11, N12, N13, N14, N15, N16, N17, N18, N19, N20, N21, N22, N23, N24, N25, N26, N27, N28, N29, N30, N31, N32, N33, N34, N35, N36, N37, N38, N39, N40, N41, N42, N43, N45, N48, N57, N59, N88, N89, N97, N99, N120, N121, N122, N179, N200, N255, N300, N400, N880, N900, N999, N1019, N50000000, N100000000, N1000000000, N2147483647, N2147483648]
  | r + 1, n + 1, left, z, a, σ, hz, hn, hr, h, hp, hg, ha, h0, h1 => by
    have h5 := hd.1
    have e := c_gs (p := p) h hd hg ha hp V 0 FU (-1) 0 1 0 rfl (by show _ < 6000; omega) (by omega) (Or.inl rfl) (fun q => absurd rfl q)
    have eg : (q : Int) - ((q : Int) - left) = left := by omega
    by_cases c1 : gs d p left a V 0 (-1) = -1
    · rw [gr, if_pos c1]
      refine ⟨σ, ?_, h0, h1, ha, fun _ _ _ => rfl, rfl⟩
      rw [f_X1_chooseGreedily_43]
      unfold f_X1_cheapestNextLot
      simp (disch := omega) only [gd_t, bd_s, nm_W, nm_I, I_add, I_sub, I_mul, I_neg, I_le_t, I_le_f, I_lt_t, I_lt_f, I_eq_t, I_eq_f, I_inb', I_ix', Int.toNat_natCast, decide_true, decide_false, Bool.not_false, Bool.not_true, if_true, if_false, wi_eq, wi_eq', wi_ne, wi_row, wi_2, N0, N1, N2, N3, N4, N5, N6, N7, N8, N9, N10, N11, N12, N13, N14, N15, N16, N17, N18, N19, N20, N21, N22, N23, N24, N25, N26, N27, N28, N29, N30, N31, N32, N33, N34, N35, N36, N37, N38, N39, N40, N41, N42, N43, N45, N48, N57, N59, N88, N89, N97, N99, N120, N121, N122, N179, N200, N255, N300, N400, N880, N900, N999, N1019, N50000000, N100000000, N1000000000, N2147483647, N2147483648, h0, eg, e, c1]
    · rcases gs_ok (d := d) (p := p) (left := left) (a := a) (V := V) V 0 (-1) (by omega) (Or.inl rfl) with hb | ⟨b1, b2, b3, b4⟩
      · exact absurd hb c1
      · rw [gr, if_neg c1]
        obtain ⟨w, ew⟩ := Int.eq_ofNat_of_zero_le b1
        rw [ew] at b2 b3 b4 e ⊢
        rw [Int.toNat_natCast] at b3 b4 ⊢
        have hw' : w < V := by omega
        obtain ⟨-, lw, -⟩ := hd.2 w hw'
        have en := cNext hd hw' hg (ha w hw') hp b3 b4
        obtain ⟨s1, hs1⟩ : ∃ s, s = wi σ 4 1 (I (sc d a V 0 + nx d a w)) := ⟨_, rfl⟩
        obtain ⟨s2, hs2⟩ : ∃ s, s = wi s1 4 0 (I ((q : Int) - left + d.lo w)) := ⟨_, rfl⟩
        obtain ⟨s3, hs3⟩ : ∃ s, s = wi s2 5 w (I (gn d a w + d.lo w)) := ⟨_, rfl⟩
        have k1 : CV m s1 V d := CV_congr h (fun k hk => by rw [hs1]; exact wi_row (by omega))
        have k2 : CV m s2 V d := CV_congr k1 (fun k hk => by rw [hs2]; exact wi_row (by omega))
        have k3 : CV m s3 V d := CV_congr k2 (fun k hk => by rw [hs3]; exact wi_row (by omega))
        have f3 : ∀ k, k ≠ 4 → k ≠ 5 → s3.1 k = σ.1 k := fun k h1 h2 => by rw [hs3, wi_row h2, hs2, wi_row h1, hs1, wi_row h1]
        have r5 : s1.1 5 w = I (gn d a w) := by rw [hs1, wi_row (by decide)]; exact ha w hw'
        obtain ⟨σ', q1, q2, q3, q4, q5, q6⟩ := c_gr (p := p) hm hd r n (left - d.lo w) (z + 1) (bump a w) s3 (by omega) (by omega) (by omega) k3 (PR_congr hp (f3 6 (by decide) (by decide)) (f3 7 (by decide) (by decide))) (GB_bump hd hw' hg b3)
          (fun v hv => by
            by_cases c : v = w
            · subst c
              rw [hs3, wi_eq, gn_bump (by omega)]
            · rw [hs3, wi_ne c, hs2, wi_row (by decide), hs1, wi_row (by decide), gn_bump_ne c]
              exact ha v hv)
          (by rw [hs3, wi_row (by decide), hs2, wi_eq, show (q : Int) - (left - d.lo w) = (q : Int) - left + d.lo w from by omega])
          (by rw [hs3, wi_row (by decide), hs2, wi_ne (by decide), hs1, wi_eq, sc_bump (by omega) V 0 (by omega) (by omega)])
        refine ⟨σ', ?_, q2, q3, q4, fun k h1 h2 => by rw [q5 k h1 h2, f3 k h1 h2], by rw [q6, hs3, wi_2, hs2, wi_2, hs1, wi_2]⟩
        rw [← q1, f_X1_chooseGreedily_43]
        unfold f_X1_cheapestNextLot
        have r4 : s1.1 4 0 = I ((q : Int) - left) := by rw [hs1, wi_ne (by decide)]; exact h0
        simp (disch := omega) only [gd_t, bd_s, nm_W, nm_I, I_add, I_sub, I_mul, I_neg, I_le_t, I_le_f, I_lt_t, I_lt_f, I_eq_t, I_eq_f, I_inb', I_ix', Int.toNat_natCast, decide_true, decide_false, Bool.not_false, Bool.not_true, if_true, if_false, wi_eq, wi_eq', wi_ne, wi_row, wi_2, N0, N1, N2, N3, N4, N5, N6, N7, N8, N9, N10, N11, N12, N13, N14, N15, N16, N17, N18, N19, N20, N21, N22, N23, N24, N25, N26, N27, N28, N29, N30, N31, N32, N33, N34, N35, N36, N37, N38, N39, N40, N41, N42, N43, N45, N48, N57, N59, N88, N89, N97, N99, N120, N121, N122, N179, N200, N255, N300, N400, N880, N900, N999, N1019, N50000000, N100000000, N1000000000, N2147483647, N2147483648, h0, h1, eg, e, cLot h hd hw', en, ← hs1, cLot k1 hd hw', r4, ← hs2, cLot k2 hd hw', r5, ← hs3]
theorem c_g0 {m V q : Nat} {d : MD} (hm : 10 < m) (hV : V ≤ 5) :
    ∀ (r v n : Nat) (z : Int) (σ : Wd), z = (v : Int) → v + r = V → r < n → σ.1 m 3 = I (V : Int) → (∀ w, w < v → σ.1 5 w = I (gn d (fun _ => 0) w)) →
      ∃ σ', f_X1_chooseGreedily_20 m n (I (q : Int)) (I z) σ = f_X1_chooseGreedily_43 m FU (I (q : Int)) (I 0) σ' ∧ (∀ w, w < V → σ'.1 5 w = I (gn d (fun _ => 0) w)) ∧ (∀ k, k ≠ 5 → σ'.1 k = σ.1 k) ∧ σ'.2 = σ.2
  | 0, v, n + 1, z, σ, hz, hv, _, h3, hw => by
    refine ⟨σ, ?_, fun w h1 => hw w (by omega), fun _ _ => rfl, rfl⟩
    rw [f_X1_chooseGreedily_20]
    simp (disch := omega) only [gd_t, bd_s, nm_W, nm_I, I_add, I_sub, I_mul, I_neg, I_le_t, I_le_f, I_lt_t, I_lt_f, I_eq_t, I_eq_f, I_inb', I_ix', Int.toNat_natCast, decide_true, decide_false, Bool.not_false, Bool.not_true, if_true, if_false, wi_eq, wi_eq', wi_ne, wi_row, wi_2, N0, N1, N2, N3, N4, N5, N6, N7, N8, N9, N10, N11, N12, N13, N14, N15, N16, N17, N18, N19, N20, N21, N22, N23, N24, N25, N26, N27, N28, N29, N30, N31, N32, N33, N34, N35, N36, N37, N38, N39, N40, N41, N42, N43, N45, N48, N57, N59, N88, N89, N97, N99, N120, N121, N122, N179, N200, N255, N300, N400, N880, N900, N999, N1019, N50000000, N100000000, N1000000000, N2147483647, N2147483648, h3]
  | r + 1, v, n + 1, z, σ, hz, hv, hn, h3, hw => by
    have g0 : gn d (fun _ => 0) v = 0 := by unfold gn; rw [Nat.zero_mul]; rfl
    have tz : z.toNat = v := by omega
    obtain ⟨σ', q1, q2, q3, q4⟩ := c_g0 (q := q) (d := d) hm hV r (v + 1) n (z + 1) (wi σ 5 v (I 0)) (by omega) (by omega) (by omega) (by rw [wi_row (by omega)]; exact h3)
      (fun w h1 => by
        by_cases c : w = v
        · subst c; rw [wi_eq, g0]
        · rw [wi_ne c]; exact hw w (by omega))
    refine ⟨σ', ?_, q2, fun k hk => by rw [q3 k hk, wi_row hk], by rw [q4, wi_2]⟩
    rw [← q1, f_X1_chooseGreedily_20]
    simp (disch := omega) only [gd_t, bd_s, nm_W, nm_I, I_add, I_sub, I_mul, I_neg, I_le_t, I_le_f, I_lt_t, I_lt_f, I_eq_t, I_eq_f, I_inb', I_ix', Int.toNat_natCast, decide_true, decide_false, Bool.not_false, Bool.not_true, if_true, if_false, wi_eq, wi_eq', wi_ne, wi_row, wi_2, N0, N1, N2, N3, N4, N5, N6, N7, N8, N9, N10, N11, N12, N13, N14, N15, N16, N17, N18, N19, N20, N21, N22, N23, N24, N25, N26, N27, N28, N29, N30, N31, N32, N33, N34, N35, N36, N37, N38, N39, N40, N41, N42, N43, N45, N48, N57, N59, N88, N89, N97, N99, N120, N121, N122, N179, N200, N255, N300, N400, N880, N900, N999, N1019, N50000000, N100000000, N1000000000, N2147483647, N2147483648, h3, tz]
theorem sc_0 {d : MD} : ∀ (r v : Nat), sc d (fun _ => 0) r v = 0
  | 0, _ => rfl
  | r + 1, v => by
    unfold sc
    rw [sc_0 r (v + 1), show gn d (fun _ => 0) v = 0 from by unfold gn; rw [Nat.zero_mul]; rfl, cst_0]
    rfl
theorem GB_0 {d : MD} {V q : Nat} (hq : q ≤ 120) : GB d (fun _ => 0) V (q : Int) q := ⟨by omega, hq, fun v hv => by rw [show gn d (fun _ => 0) v = 0 from by unfold gn; rw [Nat.zero_mul]; rfl]; omega⟩
theorem cGreedy {m : Nat} {σ : Wd} {V q : Nat} {p : Int} {d : MD} (hm : 10 < m) (hd : MDok d V) (hp : R p) (hq : q ≤ 120) (h : CV m σ V d) (hl : σ.1 m 1 = I p) :
    ∃ σ', f_X1_chooseGreedily m (I (q : Int)) σ = some (0, σ') ∧ σ'.1 4 0 = I ((q : Int) - (gr d p V 120 (fun _ => 0) (q : Int)).2) ∧ σ'.1 4 1 = I (sc d (gr d p V 120 (fun _ => 0) (q : Int)).1 V 0)
        ∧ (∀ v, v < V → σ'.1 5 v = I (gn d (gr d p V 120 (fun _ => 0) (q : Int)).1 v)) ∧ (∀ k, k < 4 ∨ 9 < k → σ'.1 k = σ.1 k) ∧ σ'.2 = σ.2 := by
  have h5 := hd.1
  obtain ⟨s1, a1, a2, a3, a4⟩ := cPrep (q := q) hm hd hp (show R (-1) by unfold R; omega) hq h hl
  obtain ⟨s2, hs2⟩ : ∃ s, s = wi (wi s1 4 0 (I 0)) 4 1 (I 0) := ⟨_, rfl⟩
  have f2 : ∀ k, k ≠ 4 → s2.1 k = s1.1 k := fun k hk => by rw [hs2, wi_row hk, wi_row hk]
  have h2 : CV m s2 V d := CV_congr h (fun k hk => by rw [f2 k (by omega), a2 k (by omega) (by omega)])
  obtain ⟨s3, b1, b2, b3, b4⟩ := c_g0 (q := q) (d := d) hm h5 V 0 FU 0 s2 rfl (by omega) (by show _ < 6000; omega) h2.1 (fun w hw => absurd hw (by omega))
  obtain ⟨σ', q1, q2, q3, q4, q5, q6⟩ := c_gr (p := p) hm hd 120 FU (q : Int) 0 (fun _ => 0) s3 ⟨by omega, by omega⟩ (by decide) (by omega) (CV_congr h2 (fun k hk => b3 k (by omega))) (PR_congr (PR_congr a4 (f2 6 (by decide)) (f2 7 (by decide))) (b3 6 (by decide)) (b3 7 (by decide))) (GB_0 hq) b2
    (by rw [b3 4 (by decide), hs2, wi_ne (by decide), wi_eq, Int.sub_self]) (by rw [b3 4 (by decide), hs2, wi_eq, sc_0])
  refine ⟨σ', ?_, q2, q3, q4, fun k hk => by rw [q5 k (by omega) (by omega), b3 k (by omega), f2 k (by omega), a2 k (by omega) (by omega)], by rw [q6, b4, hs2, wi_2, wi_2, a3]⟩
  unfold f_X1_chooseGreedily
  rw [show (-1 : Int32) = I (-1) from rfl, a1, bd_s, nm_W, nm_W]
  show f_X1_chooseGreedily_20 m FU (I (q : Int)) (I 0) (wi (wi s1 4 0 (I 0)) 4 1 (I 0)) = _
  rw [← hs2, b1, q1]
theorem c_used {m : Nat} {σ : Wd} {V : Nat} {d : MD} {a : Nat → Nat} (h3 : σ.1 m 3 = I (V : Int)) (hV : V ≤ 5) (ha : ∀ v, v < V → σ.1 5 v = I (gn d a v)) (hb : ∀ v, v < V → gn d a v ≤ 1000) :
    ∀ (r v n : Nat) (z : Int) (x : Int32), z = (v : Int) → v + r = V → r < n → f_X1_venuesUsed_4 m n x (I z) σ = some (ub d a r v x, σ)
  | 0, v, n + 1, z, x, hz, hv, _ => by
    rw [f_X1_venuesUsed_4]
    simp (disch := omega) only [gd_t, bd_s, nm_W, nm_I, I_add, I_sub, I_mul, I_neg, I_le_t, I_le_f, I_lt_t, I_lt_f, I_eq_t, I_eq_f, I_inb', I_ix', Int.toNat_natCast, decide_true, decide_false, Bool.not_false, Bool.not_true, if_true, if_false, wi_eq, wi_eq', wi_ne, wi_row, wi_2, N0, N1, N2, N3, N4, N5, N6, N7, N8, N9, N10, N11, N12, N13, N14, N15, N16, N17, N18, N19, N20, N21, N22, N23, N24, N25, N26, N27, N28, N29, N30, N31, N32, N33, N34, N35, N36, N37, N38, N39, N40, N41, N42, N43, N45, N48, N57, N59, N88, N89, N97, N99, N120, N121, N122, N179, N200, N255, N300, N400, N880, N900, N999, N1019, N50000000, N100000000, N1000000000, N2147483647, N2147483648, h3, ub]
  | r + 1, v, n + 1, z, x, hz, hv, hn => by
    subst hz
    have g0 := gn_nn (d := d) (a := a) (v := v)
    have g1 := hb v (by omega)
    have ih := fun x => c_used h3 hV ha hb r (v + 1) n ((v : Int) + 1) x (by omega) (by omega) (by omega)
    rw [ub]
    by_cases c1 : gn d a v ≤ 0
    · rw [if_pos c1, ← ih, f_X1_venuesUsed_4]
      simp (disch := omega) only [gd_t, bd_s, nm_W, nm_I, I_add, I_sub, I_mul, I_neg, I_le_t, I_le_f, I_lt_t, I_lt_f, I_eq_t, I_eq_f, I_inb', I_ix', Int.toNat_natCast, decide_true, decide_false, Bool.not_false, Bool.not_true, if_true, if_false, wi_eq, wi_eq', wi_ne, wi_row, wi_2, N0, N1, N2, N3, N4, N5, N6, N7, N8, N9, N10, N11, N12, N13, N14, N15, N16, N17, N18, N19, N20, N21, N22, N23, N24, N25, N26, N27, N28, N29, N30, N31, N32, N33, N34, N35, N36, N37, N38, N39, N40, N41, N42, N43, N45, N48, N57, N59, N88, N89, N97, N99, N120, N121, N122, N179, N200, N255, N300, N400, N880, N900, N999, N1019, N50000000, N100000000, N1000000000, N2147483647, N2147483648, h3, ha v (by omega), f_X1_venuesUsed_27]
    · rw [if_neg c1, ← ih, f_X1_venuesUsed_4]
      simp (disch := omega) only [gd_t, bd_s, nm_W, nm_I, I_add, I_sub, I_mul, I_neg, I_le_t, I_le_f, I_lt_t, I_lt_f, I_eq_t, I_eq_f, I_inb', I_ix', Int.toNat_natCast, decide_true, decide_false, Bool.not_false, Bool.not_true, if_true, if_false, wi_eq, wi_eq', wi_ne, wi_row, wi_2, N0, N1, N2, N3, N4, N5, N6, N7, N8, N9, N10, N11, N12, N13, N14, N15, N16, N17, N18, N19, N20, N21, N22, N23, N24, N25, N26, N27, N28, N29, N30, N31, N32, N33, N34, N35, N36, N37, N38, N39, N40, N41, N42, N43, N45, N48, N57, N59, N88, N89, N97, N99, N120, N121, N122, N179, N200, N255, N300, N400, N880, N900, N999, N1019, N50000000, N100000000, N1000000000, N2147483647, N2147483648, h3, ha v (by omega), f_X1_venuesUsed_27]
theorem gr_GB {d : MD} {p : Int} {V q : Nat} (hd : MDok d V) : ∀ (n : Nat) (a : Nat → Nat) (left : Int), GB d a V left q → GB d (gr d p V n a left).1 V (gr d p V n a left).2 q
  | 0, _, _, h => h
  | n + 1, a, left, h => by
    rw [gr]
    split
    · exact h
    · rename_i c
      rcases gs_ok (d := d) (p := p) (left := left) (a := a) (V := V) V 0 (-1) (by omega) (Or.inl rfl) with hb | ⟨b1, b2, b3, b4⟩
      · exact absurd hb c
      · exact gr_GB hd n _ _ (GB_bump hd (by omega) h b3)
/-- the reference's greedy split, whole -/
theorem r_g0 {V q : Nat} {p what : Int} {d : MD} (hd : MDok d V) (hp : R p) (hq : q ≤ 120) (hw : 0 ≤ what ∧ what ≤ 2) :
    ∀ (r v n : Nat) (z : Int) (σ : Wd), z = (v : Int) → v + r = 5 → r < n → RV σ V d → σ.1 102 12 = I p → (∀ w, w < v → σ.1 118 w = I (gn d (fun _ => 0) w)) →
      ∃ σ', f_X7_greedy_30 n (I (q : Int)) (I what) (I z) σ = f_X7_greedy_190 (if what = 0 then I (sc d (gr d p V 120 (fun _ => 0) (q : Int)).1 V 0) else if what = 1 then I ((q : Int) - (gr d p V 120 (fun _ => 0) (q : Int)).2) else ub d (gr d p V 120 (fun _ => 0) (q : Int)).1 V 0 0) σ'
        ∧ (∀ k, k ≠ 118 → σ'.1 k = σ.1 k) ∧ σ'.2 = σ.2
  | 0, v, n + 1, z, σ, hz, hv, _, h, hl, hw2 => by
    have h5 := hd.1
    have ha : ∀ v, v < V → σ.1 118 v = I (gn d (fun _ => 0) v) := fun w h1 => hw2 w (by omega)
    obtain ⟨σ', q1, q2, q3⟩ := r_gr (q := q) hd hp hw 120 FU (q : Int) (fun _ => 0) σ (by decide) (by omega) h hl (GB_0 hq) ha
    refine ⟨σ', ?_, q2, q3⟩
    rw [← q1, f_X7_greedy_30]
    simp (disch := omega) only [gd_t, bd_s, nm_W, nm_I, I_add, I_sub, I_mul, I_neg, I_le_t, I_le_f, I_lt_t, I_lt_f, I_eq_t, I_eq_f, I_inb', I_ix', Int.toNat_natCast, decide_true, decide_false, Bool.not_false, Bool.not_true, if_true, if_false, wi_eq, wi_eq', wi_ne, wi_row, wi_2, N0, N1, N2, N3, N4, N5, N6, N7, N8, N9, N10, N11, N12, N13, N14, N15, N16, N17, N18, N19, N20, N21, N22, N23, N24, N25, N26, N27, N28, N29, N30, N31, N32, N33, N34, N35, N36, N37, N38, N39, N40, N41, N42, N43, N45, N48, N57, N59, N88, N89, N97, N99, N120, N121, N122, N179, N200, N255, N300, N400, N880, N900, N999, N1019, N50000000, N100000000, N1000000000, N2147483647, N2147483648, rGs h hd hp hl (GB_0 hq) ha]
  | r + 1, v, n + 1, z, σ, hz, hv, hn, h, hl, hw2 => by
    have g0 : gn d (fun _ => 0) v = 0 := by unfold gn; rw [Nat.zero_mul]; rfl
    have tz : z.toNat = v := by omega
    obtain ⟨σ', q1, q2, q3⟩ := r_g0 (q := q) hd hp hq hw r (v + 1) n (z + 1) (wi σ 118 v (I 0)) (by omega) (by omega) (by omega)
      (RV_congr h (by rw [wi_row (by decide)]) (wi_row (by decide)) (wi_row (by decide)) (wi_row (by decide))) (by rw [wi_row (by decide)]; exact hl)
      (fun w h1 => by
        by_cases c : w = v
        · subst c; rw [wi_eq, g0]
        · rw [wi_ne c]; exact hw2 w (by omega))
    refine ⟨σ', ?_, fun k hk => by rw [q2 k hk, wi_row hk], by rw [q3, wi_2]⟩
    rw [← q1, f_X7_greedy_30]
    simp (disch := omega) only [gd_t, bd_s, nm_W, nm_I, I_add, I_sub, I_mul, I_neg, I_le_t, I_le_f, I_lt_t, I_lt_f, I_eq_t, I_eq_f, I_inb', I_ix', Int.toNat_natCast, decide_true, decide_false, Bool.not_false, Bool.not_true, if_true, if_false, wi_eq, wi_eq', wi_ne, wi_row, wi_2, N0, N1, N2, N3, N4, N5, N6, N7, N8, N9, N10, N11, N12, N13, N14, N15, N16, N17, N18, N19, N20, N21, N22, N23, N24, N25, N26, N27, N28, N29, N30, N31, N32, N33, N34, N35, N36, N37, N38, N39, N40, N41, N42, N43, N45, N48, N57, N59, N88, N89, N97, N99, N120, N121, N122, N179, N200, N255, N300, N400, N880, N900, N999, N1019, N50000000, N100000000, N1000000000, N2147483647, N2147483648, tz]
