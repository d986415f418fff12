/-! PURE: cost, venue, level -/
theorem cost_1 {τ : Wd} {v z : Int} (e : f_X7_isVenue (I v) (wi τ 102 0 (I 0)) = some (I 0, wi τ 102 0 (I 0))) : f_X7_cost (I v) (I z) τ = some (I (-2147483648), refW τ (I 1)) := by
  unfold f_X7_cost refW
  simp (disch := omega) only [gd_t, bd_s, nm_W, nm_I, I_add, I_sub, I_mul, I_neg, I_le_t, I_le_f, I_lt_t, I_lt_f, I_eq_t, I_eq_f, I_inb', I_ix', Int.toNat_natCast, decide_true, decide_false, Bool.not_false, Bool.not_true, if_true, if_false, wi_eq, wi_eq', wi_ne, wi_row, wi_2, N0, N1, N2, N3, N4, N5, N6, N7, N8, N9, N10, N11, N12, N13, N14, N15, N16, N17, N18, N19, N20, N21, N22, N23, N24, N25, N26, N27, N28, N29, N30, N31, N32, N33, N34, N35, N36, N37, N38, N39, N40, N41, N42, N43, N45, N48, N57, N59, N88, N89, N97, N99, N120, N121, N122, N179, N200, N255, N300, N400, N880, N900, N999, N1019, N50000000, N100000000, N1000000000, N2147483647, N2147483648, e, refL]
theorem cost_2 {τ : Wd} {v z a b : Int} (e : f_X7_isVenue (I v) (wi τ 102 0 (I 0)) = some (I 1, wi τ 102 0 (I 0))) (e2 : f_X7_in (I z) (I 0) (I 120) (wi τ 102 0 (I 0)) = some (I a, wi τ 102 0 (I 0))) (e3 : f_X7_canHave (I v) (I z) (wi τ 102 0 (I 0)) = some (I b, wi τ 102 0 (I 0))) (h : a = 0 ∨ (a = 1 ∧ b = 0)) : f_X7_cost (I v) (I z) τ = some (I (-2147483648), refW τ (I 2)) := by
  unfold f_X7_cost refW f_X7_cost_51
  rcases h with h | ⟨h, h2⟩
  · simp (disch := omega) only [gd_t, bd_s, nm_W, nm_I, I_add, I_sub, I_mul, I_neg, I_le_t, I_le_f, I_lt_t, I_lt_f, I_eq_t, I_eq_f, I_inb', I_ix', Int.toNat_natCast, decide_true, decide_false, Bool.not_false, Bool.not_true, if_true, if_false, wi_eq, wi_eq', wi_ne, wi_row, wi_2, N0, N1, N2, N3, N4, N5, N6, N7, N8, N9, N10, N11, N12, N13, N14, N15, N16, N17, N18, N19, N20, N21, N22, N23, N24, N25, N26, N27, N28, N29, N30, N31, N32, N33, N34, N35, N36, N37, N38, N39, N40, N41, N42, N43, N45, N48, N57, N59, N88, N89, N97, N99, N120, N121, N122, N179, N200, N255, N300, N400, N880, N900, N999, N1019, N50000000, N100000000, N1000000000, N2147483647, N2147483648, e, e2, refL, f_X7_cost_56]
  · simp (disch := omega) only [gd_t, bd_s, nm_W, nm_I, I_add, I_sub, I_mul, I_neg, I_le_t, I_le_f, I_lt_t, I_lt_f, I_eq_t, I_eq_f, I_inb', I_ix', Int.toNat_natCast, decide_true, decide_false, Bool.not_false, Bool.not_true, if_true, if_false, wi_eq, wi_eq', wi_ne, wi_row, wi_2, N0, N1, N2, N3, N4, N5, N6, N7, N8, N9, N10, N11, N12, N13, N14, N15, N16, N17, N18, N19, N20, N21, N22, N23, N24, N25, N26, N27, N28, N29, N30, N31, N32, N33, N34, N35, N36, N37, N38, N39, N40, N41, N42, N43, N45, N48, N57, N59, N88, N89, N97, N99, N120, N121, N122, N179, N200, N255, N300, N400, N880, N900, N999, N1019, N50000000, N100000000, N1000000000, N2147483647, N2147483648, e, e2, e3, refL, f_X7_cost_56]
theorem cost_3 {τ : Wd} {v z x : Int} (e : f_X7_isVenue (I v) (wi τ 102 0 (I 0)) = some (I 1, wi τ 102 0 (I 0))) (e2 : f_X7_in (I z) (I 0) (I 120) (wi τ 102 0 (I 0)) = some (I 1, wi τ 102 0 (I 0))) (e3 : f_X7_canHave (I v) (I z) (wi τ 102 0 (I 0)) = some (I 1, wi τ 102 0 (I 0))) (e4 : f_X7_costOf (I v) (I z) (wi τ 102 0 (I 0)) = some (I x, wi τ 102 0 (I 0))) : f_X7_cost (I v) (I z) τ = bd (f_X7_good (I x) (wi τ 102 0 (I 0))) (fun r s => some (r, s)) := by
  unfold f_X7_cost f_X7_cost_56
  simp (disch := omega) only [gd_t, bd_s, nm_W, nm_I, I_add, I_sub, I_mul, I_neg, I_le_t, I_le_f, I_lt_t, I_lt_f, I_eq_t, I_eq_f, I_inb', I_ix', Int.toNat_natCast, decide_true, decide_false, Bool.not_false, Bool.not_true, if_true, if_false, wi_eq, wi_eq', wi_ne, wi_row, wi_2, N0, N1, N2, N3, N4, N5, N6, N7, N8, N9, N10, N11, N12, N13, N14, N15, N16, N17, N18, N19, N20, N21, N22, N23, N24, N25, N26, N27, N28, N29, N30, N31, N32, N33, N34, N35, N36, N37, N38, N39, N40, N41, N42, N43, N45, N48, N57, N59, N88, N89, N97, N99, N120, N121, N122, N179, N200, N255, N300, N400, N880, N900, N999, N1019, N50000000, N100000000, N1000000000, N2147483647, N2147483648, e, e2, e3, e4]
theorem c_cost {σ : Wd} {m : Nat} {v z a b : Int} (hm : σ.2.2 0 4 = m) (bm : bM m = true) (e1 : f_X6_isVenue (I v) σ = some (I a, σ)) (ha : 0 ≤ a ∧ a ≤ 1) (hb : 0 ≤ b ∧ b ≤ 1) (e2 : a = 1 → f_X3_canBeHad m (I v) (I z) σ = some (I b, σ)) (e3 : a = 0 → b = 0) : f_X6_cost (I v) (I z) σ = f_X6_cost_31 (I v) (I z) (I a) (I b) σ := by
  unfold f_X6_cost f_X6_cost_30
  by_cases c : a = 0
  · have e3 := e3 c
    simp (disch := omega) only [gd_t, bd_s, nm_W, nm_I, I_add, I_sub, I_mul, I_neg, I_le_t, I_le_f, I_lt_t, I_lt_f, I_eq_t, I_eq_f, I_inb', I_ix', Int.toNat_natCast, decide_true, decide_false, Bool.not_false, Bool.not_true, if_true, if_false, wi_eq, wi_eq', wi_ne, wi_row, wi_2, N0, N1, N2, N3, N4, N5, N6, N7, N8, N9, N10, N11, N12, N13, N14, N15, N16, N17, N18, N19, N20, N21, N22, N23, N24, N25, N26, N27, N28, N29, N30, N31, N32, N33, N34, N35, N36, N37, N38, N39, N40, N41, N42, N43, N45, N48, N57, N59, N88, N89, N97, N99, N120, N121, N122, N179, N200, N255, N300, N400, N880, N900, N999, N1019, N50000000, N100000000, N1000000000, N2147483647, N2147483648, e1]
    rw [e3]
  · have e2 := e2 (by omega)
    by_cases c2 : b = 0
    · simp (disch := omega) only [gd_t, bd_s, nm_W, nm_I, I_add, I_sub, I_mul, I_neg, I_le_t, I_le_f, I_lt_t, I_lt_f, I_eq_t, I_eq_f, I_inb', I_ix', Int.toNat_natCast, decide_true, decide_false, Bool.not_false, Bool.not_true, if_true, if_false, wi_eq, wi_eq', wi_ne, wi_row, wi_2, N0, N1, N2, N3, N4, N5, N6, N7, N8, N9, N10, N11, N12, N13, N14, N15, N16, N17, N18, N19, N20, N21, N22, N23, N24, N25, N26, N27, N28, N29, N30, N31, N32, N33, N34, N35, N36, N37, N38, N39, N40, N41, N42, N43, N45, N48, N57, N59, N88, N89, N97, N99, N120, N121, N122, N179, N200, N255, N300, N400, N880, N900, N999, N1019, N50000000, N100000000, N1000000000, N2147483647, N2147483648, e1, hm, bm, e2]
      rw [c2]
    · simp (disch := omega) only [gd_t, bd_s, nm_W, nm_I, I_add, I_sub, I_mul, I_neg, I_le_t, I_le_f, I_lt_t, I_lt_f, I_eq_t, I_eq_f, I_inb', I_ix', Int.toNat_natCast, decide_true, decide_false, Bool.not_false, Bool.not_true, if_true, if_false, wi_eq, wi_eq', wi_ne, wi_row, wi_2, N0, N1, N2, N3, N4, N5, N6, N7, N8, N9, N10, N11, N12, N13, N14, N15, N16, N17, N18, N19, N20, N21, N22, N23, N24, N25, N26, N27, N28, N29, N30, N31, N32, N33, N34, N35, N36, N37, N38, N39, N40, N41, N42, N43, N45, N48, N57, N59, N88, N89, N97, N99, N120, N121, N122, N179, N200, N255, N300, N400, N880, N900, N999, N1019, N50000000, N100000000, N1000000000, N2147483647, N2147483648, e1, hm, bm, e2]
      rw [show b = 1 from by omega]
theorem m_cost (x y : Int32) : MT (f_X6_cost x y) (f_X7_cost x y) := by
  intro σ τ B ⟨m, V, E, pres, kp, d, p, L, W, dl, pl, et, b, t, s, rd, h, n, g, hG⟩ hB
  obtain ⟨v, rfl, hv⟩ := argI x
  obtain ⟨z, rfl, hz⟩ := argI y
  obtain ⟨bm, m10, m63⟩ := bMm hG.1
  have hM0 := hG.2.2.1.1.1
  have h5 := hM0.1.1
  have g21 : (wi τ 102 0 (I 0)).1 102 21 = I (bn pres) := by rw [wi_ne (by decide)]; exact hG.2.2.2.1.2.1
  have g14 : (wi τ 102 0 (I 0)).1 102 14 = I (V : Int) := by rw [wi_ne (by decide)]; exact hM0.2.2.1.1
  have c1 := cIsV (σ := σ) hv hG.2.1 bm hM0.2.1.1 h5
  obtain ⟨hb, hhb⟩ : ∃ hb : Bool, hb = (decide (0 ≤ v ∧ v < (V : Int)) && (decide (z ≤ 120) && hv_ d p v.toNat z)) := ⟨_, rfl⟩
  have rv1 : RV (wi τ 102 0 (I 0)) V d := RV_congr hM0.2.2.1 (by rw [wi_ne (by decide)]) (wi_row (by decide)) (wi_row (by decide)) (wi_row (by decide))
  have rh : 0 ≤ v → v < (V : Int) → f_X7_canHave (I v) (I z) (wi τ 102 0 (I 0)) = some (I (bn (hv_ d p v.toNat z)), wi τ 102 0 (I 0)) := fun a1 a2 => by
    have q := rHad (v := v.toNat) (z := z) rv1 hM0.1 (by omega) (QM_p hM0) (by rw [wi_ne (by decide)]; exact hM0.2.2.2.1.2.1) hz
    rw [show ((v.toNat : Nat) : Int) = v from by omega] at q
    exact q
  have ri := rIn (σ := wi τ 102 0 (I 0)) (lo := 0) (hi := 120) hz (by unfold R; omega) (by unfold R; omega)
  obtain ⟨x, σ', τ', k1, k2, k3, k4⟩ := grq_ok (a := bn (decide (0 ≤ v ∧ v < (V : Int)))) (nn := bn hb) (ss := 1) (low := I (-2147483648)) (K := fun σ2 => gd (bM (σ2.2.2 0 4)) (bd (f_X3_costOf (σ2.2.2 0 4) (I v) (I z) σ2) fun r4 σ5 => some (r4, σ5))) (fr := f_X7_cost (I v) (I z))
    hG (bn_bnd _) (bn_bnd _) (by omega)
    (fun hc => by
      rcases tc_cases (pres := pres) (a := bn (decide (0 ≤ v ∧ v < (V : Int)))) (n := bn hb) (s := 1) with ⟨q1, q2⟩ | ⟨q1, q2, q3⟩ | ⟨q1, q2, q3, q4⟩ | ⟨-, -, -, q2, -⟩ | ⟨-, -, -, -, q2⟩
      · rw [q2]; exact cost_1 (rIsV0 hv g21 (bn_bnd _) g14 h5 (Or.inl (by rw [q1]; rfl)))
      · rw [q3]; exact cost_1 (rIsV0 hv g21 (bn_bnd _) g14 h5 (Or.inr (bn_0 q2)))
      · have y := bn_n0 q2
        rw [q4]
        refine cost_2 (rIsV1 hv g21 (by rw [q1]; rfl) g14 h5 y.1 y.2) ri (rh y.1 y.2) ?_
        rw [hhb, decide_eq_true y, Bool.true_and] at q3
        by_cases w : 0 ≤ z ∧ z ≤ 120
        · rw [decide_eq_true w.2, Bool.true_and] at q3
          rw [decide_eq_true w]
          exact Or.inr ⟨rfl, q3⟩
        · rw [decide_eq_false w]
          exact Or.inl rfl
      · omega
      · exact absurd q2 hc)
    (fun hp ha hn _ hM hR => by
      have y := bn_1 ha
      have hb1 : hb = true := by
        cases e : hb with
        | true => rfl
        | false => rw [e] at hn; cases hn
      rw [hhb, decide_eq_true y, Bool.true_and] at hb1
      obtain ⟨w1, w2⟩ := Bool.and_eq_true_iff.mp hb1
      have w1 := of_decide_eq_true w1
      have w3 := (of_decide_eq_true w2).1
      obtain ⟨u, hu⟩ := Int.eq_ofNat_of_zero_le y.1
      have e1 := cCost (v := u) (n := z) hM.2.1 hM.1 (by omega) (by omega) (by omega)
      have e2 := rCost (v := u) (n := z) hM.2.2.1 hM.1 (by omega) (by omega) (by omega)
      rw [← hu] at e1 e2
      have rh := rh y.1 y.2
      rw [w2] at rh
      exact ⟨_, _, _, by rw [show (wi σ 0 12 (I 0)).2.2 0 4 = m from hG.2.1, bm, gd_t, e1, bd_s], cost_3 (rIsV1 hv g21 (by rw [hp]; rfl) g14 h5 y.1 y.2) (rIn1 hz (by unfold R; omega) (by unfold R; omega) ⟨w3, w1⟩) rh e2, QFr, RQr⟩)
  refine ⟨x, σ', τ', ?_, k2, ⟨m, V, E, pres, kp, d, p, L, W, dl, pl, et, b, t, s, rd, h, n, g, GA_B k3 (by omega)⟩, k4⟩
  rw [c_cost hG.2.1 bm c1 (bn_bnd _) (bn_bnd hb) (fun q => by
    have y := bn_1 q
    have e := cHad (v := v.toNat) (z := z) hM0.2.1 hM0.1 (by omega) (QM_p hM0) hM0.2.2.2.1.1 hz
    rw [show ((v.toNat : Nat) : Int) = v from by omega] at e
    rw [hhb, decide_eq_true y, Bool.true_and]
    exact e) (fun q => by rw [hhb, decide_eq_false (bn_0 q), Bool.false_and]; rfl)]
  exact k1
theorem venue_1 {τ : Wd} {v z : Int} (e : f_X7_isVenue (I v) (wi τ 102 0 (I 0)) = some (I 0, wi τ 102 0 (I 0))) : f_X7_venue (I v) (I z) τ = some (I (-2147483648), refW τ (I 1)) := by
  unfold f_X7_venue refW
  simp (disch := omega) only [gd_t, bd_s, nm_W, nm_I, I_add, I_sub, I_mul, I_neg, I_le_t, I_le_f, I_lt_t, I_lt_f, I_eq_t, I_eq_f, I_inb', I_ix', Int.toNat_natCast, decide_true, decide_false, Bool.not_false, Bool.not_true, if_true, if_false, wi_eq, wi_eq', wi_ne, wi_row, wi_2, N0, N1, N2, N3, N4, N5, N6, N7, N8, N9, N10, N11, N12, N13, N14, N15, N16, N17, N18, N19, N20, N21, N22, N23, N24, N25, N26, N27, N28, N29, N30, N31, N32, N33, N34, N35, N36, N37, N38, N39, N40, N41, N42, N43, N45, N48, N57, N59, N88, N89, N97, N99, N120, N121, N122, N179, N200, N255, N300, N400, N880, N900, N999, N1019, N50000000, N100000000, N1000000000, N2147483647, N2147483648, e, refL]
theorem venue_2 {τ : Wd} {v z : Int} (hz : R z) (e : f_X7_isVenue (I v) (wi τ 102 0 (I 0)) = some (I 1, wi τ 102 0 (I 0))) (h : ¬ (0 ≤ z ∧ z ≤ 6)) : f_X7_venue (I v) (I z) τ = some (I (-2147483648), refW τ (I 1)) := by
  unfold R at hz
  unfold f_X7_venue refW
  rcases (show z < 0 ∨ 6 < z by omega) with c | c
  · simp (disch := omega) only [gd_t, bd_s, nm_W, nm_I, I_add, I_sub, I_mul, I_neg, I_le_t, I_le_f, I_lt_t, I_lt_f, I_eq_t, I_eq_f, I_inb', I_ix', Int.toNat_natCast, decide_true, decide_false, Bool.not_false, Bool.not_true, if_true, if_false, wi_eq, wi_eq', wi_ne, wi_row, wi_2, N0, N1, N2, N3, N4, N5, N6, N7, N8, N9, N10, N11, N12, N13, N14, N15, N16, N17, N18, N19, N20, N21, N22, N23, N24, N25, N26, N27, N28, N29, N30, N31, N32, N33, N34, N35, N36, N37, N38, N39, N40, N41, N42, N43, N45, N48, N57, N59, N88, N89, N97, N99, N120, N121, N122, N179, N200, N255, N300, N400, N880, N900, N999, N1019, N50000000, N100000000, N1000000000, N2147483647, N2147483648, e, refL]
  · simp (disch := omega) only [gd_t, bd_s, nm_W, nm_I, I_add, I_sub, I_mul, I_neg, I_le_t, I_le_f, I_lt_t, I_lt_f, I_eq_t, I_eq_f, I_inb', I_ix', Int.toNat_natCast, decide_true, decide_false, Bool.not_false, Bool.not_true, if_true, if_false, wi_eq, wi_eq', wi_ne, wi_row, wi_2, N0, N1, N2, N3, N4, N5, N6, N7, N8, N9, N10, N11, N12, N13, N14, N15, N16, N17, N18, N19, N20, N21, N22, N23, N24, N25, N26, N27, N28, N29, N30, N31, N32, N33, N34, N35, N36, N37, N38, N39, N40, N41, N42, N43, N45, N48, N57, N59, N88, N89, N97, N99, N120, N121, N122, N179, N200, N255, N300, N400, N880, N900, N999, N1019, N50000000, N100000000, N1000000000, N2147483647, N2147483648, e, refL]
theorem venue_3 {τ : Wd} {v : Nat} {z k l f a D w q : Int} (v5 : v < 5) (e : f_X7_isVenue (I (v : Int)) (wi τ 102 0 (I 0)) = some (I 1, wi τ 102 0 (I 0))) (e0 : τ.1 103 (5 * v) = I k) (e1 : τ.1 103 (5 * v + 1) = I l) (e2 : τ.1 112 (30 + v) = I f) (e3 : τ.1 103 (5 * v + 2) = I a) (e4 : τ.1 103 (5 * v + 3) = I D) (e5 : τ.1 103 (5 * v + 4) = I w) (e6 : f_X7_depth (I (v : Int)) (wi τ 102 0 (I 0)) = some (I q, wi τ 102 0 (I 0))) (h : 0 ≤ z ∧ z ≤ 6) :
    f_X7_venue (I (v : Int)) (I z) τ = bd (f_X7_good (I (if z = 0 then k else if z = 1 then l else if z = 2 then f else if z = 3 then a else if z = 4 then D else if z = 5 then w else q)) (wi τ 102 0 (I 0))) (fun r s => some (r, s)) := by
  have told : ∀ (j : Nat), j < 5 → f_X7_told (I (v : Int)) (I (j : Int)) (wi τ 102 0 (I 0)) = some (τ.1 103 (5 * v + j), wi τ 102 0 (I 0)) := fun j hj => by rw [told7 j v5 hj, wi_row (by decide)]
  have t0 := told 0 (by decide)
  have t2 := told 2 (by decide)
  have t3 := told 3 (by decide)
  rw [show (I ((0 : Nat) : Int)) = I 0 from rfl, show 5 * v + 0 = 5 * v from rfl, e0] at t0
  rw [show (I ((2 : Nat) : Int)) = I 2 from rfl, e3] at t2
  rw [show (I ((3 : Nat) : Int)) = I 3 from rfl, e4] at t3
  have tl := lot7 (σ := wi τ 102 0 (I 0)) v5
  have tv := levels7 (σ := wi τ 102 0 (I 0)) v5
  rw [wi_row (by decide), e1] at tl
  rw [wi_row (by decide), e5] at tv
  have w1 : ((30 : Int) + (v : Int)).toNat = 30 + v := by omega
  clear told
  rcases (show z = 0 ∨ z = 1 ∨ z = 2 ∨ z = 3 ∨ z = 4 ∨ z = 5 ∨ z = 6 by omega) with c | c | c | c | c | c | c
  · rw [if_pos c]
    unfold f_X7_venue
    simp (disch := omega) only [gd_t, bd_s, nm_W, nm_I, I_add, I_sub, I_mul, I_neg, I_le_t, I_le_f, I_lt_t, I_lt_f, I_eq_t, I_eq_f, I_inb', I_ix', Int.toNat_natCast, decide_true, decide_false, Bool.not_false, Bool.not_true, if_true, if_false, wi_eq, wi_eq', wi_ne, wi_row, wi_2, N0, N1, N2, N3, N4, N5, N6, N7, N8, N9, N10, N11, N12, N13, N14, N15, N16, N17, N18, N19, N20, N21, N22, N23, N24, N25, N26, N27, N28, N29, N30, N31, N32, N33, N34, N35, N36, N37, N38, N39, N40, N41, N42, N43, N45, N48, N57, N59, N88, N89, N97, N99, N120, N121, N122, N179, N200, N255, N300, N400, N880, N900, N999, N1019, N50000000, N100000000, N1000000000, N2147483647, N2147483648, e, t0]
  · rw [if_neg (by omega), if_pos c]
    unfold f_X7_venue
    simp (disch := omega) only [gd_t, bd_s, nm_W, nm_I, I_add, I_sub, I_mul, I_neg, I_le_t, I_le_f, I_lt_t, I_lt_f, I_eq_t, I_eq_f, I_inb', I_ix', Int.toNat_natCast, decide_true, decide_false, Bool.not_false, Bool.not_true, if_true, if_false, wi_eq, wi_eq', wi_ne, wi_row, wi_2, N0, N1, N2, N3, N4, N5, N6, N7, N8, N9, N10, N11, N12, N13, N14, N15, N16, N17, N18, N19, N20, N21, N22, N23, N24, N25, N26, N27, N28, N29, N30, N31, N32, N33, N34, N35, N36, N37, N38, N39, N40, N41, N42, N43, N45, N48, N57, N59, N88, N89, N97, N99, N120, N121, N122, N179, N200, N255, N300, N400, N880, N900, N999, N1019, N50000000, N100000000, N1000000000, N2147483647, N2147483648, e, tl]
  · rw [if_neg (by omega), if_neg (by omega), if_pos c]
    unfold f_X7_venue
    simp (disch := omega) only [gd_t, bd_s, nm_W, nm_I, I_add, I_sub, I_mul, I_neg, I_le_t, I_le_f, I_lt_t, I_lt_f, I_eq_t, I_eq_f, I_inb', I_ix', Int.toNat_natCast, decide_true, decide_false, Bool.not_false, Bool.not_true, if_true, if_false, wi_eq, wi_eq', wi_ne, wi_row, wi_2, N0, N1, N2, N3, N4, N5, N6, N7, N8, N9, N10, N11, N12, N13, N14, N15, N16, N17, N18, N19, N20, N21, N22, N23, N24, N25, N26, N27, N28, N29, N30, N31, N32, N33, N34, N35, N36, N37, N38, N39, N40, N41, N42, N43, N45, N48, N57, N59, N88, N89, N97, N99, N120, N121, N122, N179, N200, N255, N300, N400, N880, N900, N999, N1019, N50000000, N100000000, N1000000000, N2147483647, N2147483648, e, w1, e2]
  · rw [if_neg (by omega), if_neg (by omega), if_neg (by omega), if_pos c]
    unfold f_X7_venue
    simp (disch := omega) only [gd_t, bd_s, nm_W, nm_I, I_add, I_sub, I_mul, I_neg, I_le_t, I_le_f, I_lt_t, I_lt_f, I_eq_t, I_eq_f, I_inb', I_ix', Int.toNat_natCast, decide_true, decide_false, Bool.not_false, Bool.not_true, if_true, if_false, wi_eq, wi_eq', wi_ne, wi_row, wi_2, N0, N1, N2, N3, N4, N5, N6, N7, N8, N9, N10, N11, N12, N13, N14, N15, N16, N17, N18, N19, N20, N21, N22, N23, N24, N25, N26, N27, N28, N29, N30, N31, N32, N33, N34, N35, N36, N37, N38, N39, N40, N41, N42, N43, N45, N48, N57, N59, N88, N89, N97, N99, N120, N121, N122, N179, N200, N255, N300, N400, N880, N900, N999, N1019, N50000000, N100000000, N1000000000, N2147483647, N2147483648, e, t2]
  · rw [if_neg (by omega), if_neg (by omega), if_neg (by omega), if_neg (by omega), if_pos c]
    unfold f_X7_venue
    simp (disch := omega) only [gd_t, bd_s, nm_W, nm_I, I_add, I_sub, I_mul, I_neg, I_le_t, I_le_f, I_lt_t, I_lt_f, I_eq_t, I_eq_f, I_inb', I_ix', Int.toNat_natCast, decide_true, decide_false, Bool.not_false, Bool.not_true, if_true, if_false, wi_eq, wi_eq', wi_ne, wi_row, wi_2, N0, N1, N2, N3, N4, N5, N6, N7, N8, N9, N10, N11, N12, N13, N14, N15, N16, N17, N18, N19, N20, N21, N22, N23, N24, N25, N26, N27, N28, N29, N30, N31, N32, N33, N34, N35, N36, N37, N38, N39, N40, N41, N42, N43, N45, N48, N57, N59, N88, N89, N97, N99, N120, N121, N122, N179, N200, N255, N300, N400, N880, N900, N999, N1019, N50000000, N100000000, N1000000000, N2147483647, N2147483648, e, t3]
  · rw [if_neg (by omega), if_neg (by omega), if_neg (by omega), if_neg (by omega), if_neg (by omega), if_pos c]
    unfold f_X7_venue
    simp (disch := omega) only [gd_t, bd_s, nm_W, nm_I, I_add, I_sub, I_mul, I_neg, I_le_t, I_le_f, I_lt_t, I_lt_f, I_eq_t, I_eq_f, I_inb', I_ix', Int.toNat_natCast, decide_true, decide_false, Bool.not_false, Bool.not_true, if_true, if_false, wi_eq, wi_eq', wi_ne, wi_row, wi_2, N0, N1, N2, N3, N4, N5, N6, N7, N8, N9, N10, N11, N12, N13, N14, N15, N16, N17, N18, N19, N20, N21, N22, N23, N24, N25, N26, N27, N28, N29, N30, N31, N32, N33, N34, N35, N36, N37, N38, N39, N40, N41, N42, N43, N45, N48, N57, N59, N88, N89, N97, N99, N120, N121, N122, N179, N200, N255, N300, N400, N880, N900, N999, N1019, N50000000, N100000000, N1000000000, N2147483647, N2147483648, e, tv]
  · rw [if_neg (by omega), if_neg (by omega), if_neg (by omega), if_neg (by omega), if_neg (by omega), if_neg (by omega)]
    unfold f_X7_venue
    simp (disch := omega) only [gd_t, bd_s, nm_W, nm_I, I_add, I_sub, I_mul, I_neg, I_le_t, I_le_f, I_lt_t, I_lt_f, I_eq_t, I_eq_f, I_inb', I_ix', Int.toNat_natCast, decide_true, decide_false, Bool.not_false, Bool.not_true, if_true, if_false, wi_eq, wi_eq', wi_ne, wi_row, wi_2, N0, N1, N2, N3, N4, N5, N6, N7, N8, N9, N10, N11, N12, N13, N14, N15, N16, N17, N18, N19, N20, N21, N22, N23, N24, N25, N26, N27, N28, N29, N30, N31, N32, N33, N34, N35, N36, N37, N38, N39, N40, N41, N42, N43, N45, N48, N57, N59, N88, N89, N97, N99, N120, N121, N122, N179, N200, N255, N300, N400, N880, N900, N999, N1019, N50000000, N100000000, N1000000000, N2147483647, N2147483648, e, e6]
