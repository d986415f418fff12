/-! PURE: venue, level -/
theorem c_venue {σ : Wd} {v w a c : Int} (e1 : f_X6_isVenue (I v) σ = some (I a, σ)) (e2 : f_X6_within (I w) (I 0) (I 6) σ = some (I c, σ)) (ha : 0 ≤ a ∧ a ≤ 1) (hc : 0 ≤ c ∧ c ≤ 1) : f_X6_venue (I v) (I w) σ = f_X6_venue_24 (I v) (I w) (I (a * c)) σ := by
  unfold f_X6_venue f_X6_venue_23
  by_cases c1 : a = 0
  · simp (disch := omega) only [gd_t, bd_s, nm_W, nm_I, I_add, I_sub, I_mul, I_neg, I_le_t, I_le_f, I_lt_t, I_lt_f, I_eq_t, I_eq_f, I_inb', I_ix', Int.toNat_natCast, decide_true, decide_false, Bool.not_false, Bool.not_true, if_true, if_false, wi_eq, wi_eq', wi_ne, wi_row, wi_2, N0, N1, N2, N3, N4, N5, N6, N7, N8, N9, N10, N11, N12, N13, N14, N15, N16, N17, N18, N19, N20, N21, N22, N23, N24, N25, N26, N27, N28, N29, N30, N31, N32, N33, N34, N35, N36, N37, N38, N39, N40, N41, N42, N43, N45, N48, N57, N59, N88, N89, N97, N99, N120, N121, N122, N179, N200, N255, N300, N400, N880, N900, N999, N1019, N50000000, N100000000, N1000000000, N2147483647, N2147483648, e1]
    rw [c1, Int.zero_mul]
  · have a1 : a = 1 := by omega
    by_cases c2 : c = 0
    · simp (disch := omega) only [gd_t, bd_s, nm_W, nm_I, I_add, I_sub, I_mul, I_neg, I_le_t, I_le_f, I_lt_t, I_lt_f, I_eq_t, I_eq_f, I_inb', I_ix', Int.toNat_natCast, decide_true, decide_false, Bool.not_false, Bool.not_true, if_true, if_false, wi_eq, wi_eq', wi_ne, wi_row, wi_2, N0, N1, N2, N3, N4, N5, N6, N7, N8, N9, N10, N11, N12, N13, N14, N15, N16, N17, N18, N19, N20, N21, N22, N23, N24, N25, N26, N27, N28, N29, N30, N31, N32, N33, N34, N35, N36, N37, N38, N39, N40, N41, N42, N43, N45, N48, N57, N59, N88, N89, N97, N99, N120, N121, N122, N179, N200, N255, N300, N400, N880, N900, N999, N1019, N50000000, N100000000, N1000000000, N2147483647, N2147483648, e1, e2]
      rw [c2, Int.mul_zero]
    · simp (disch := omega) only [gd_t, bd_s, nm_W, nm_I, I_add, I_sub, I_mul, I_neg, I_le_t, I_le_f, I_lt_t, I_lt_f, I_eq_t, I_eq_f, I_inb', I_ix', Int.toNat_natCast, decide_true, decide_false, Bool.not_false, Bool.not_true, if_true, if_false, wi_eq, wi_eq', wi_ne, wi_row, wi_2, N0, N1, N2, N3, N4, N5, N6, N7, N8, N9, N10, N11, N12, N13, N14, N15, N16, N17, N18, N19, N20, N21, N22, N23, N24, N25, N26, N27, N28, N29, N30, N31, N32, N33, N34, N35, N36, N37, N38, N39, N40, N41, N42, N43, N45, N48, N57, N59, N88, N89, N97, N99, N120, N121, N122, N179, N200, N255, N300, N400, N880, N900, N999, N1019, N50000000, N100000000, N1000000000, N2147483647, N2147483648, e1, e2]
      rw [a1, show c = 1 from by omega]
      rfl
theorem venue_K {σ : Wd} {m v : Nat} {z k l f a D w q : Int} (v5 : v < 5) (hm : σ.2.2 0 4 = m) (bm : bM m = true) (e0 : σ.1 (m + 1) v = I k) (e1 : σ.1 (m + 2) v = I l) (e2 : σ.1 (m + 3) v = I f) (e3 : σ.1 (m + 4) v = I a) (e4 : σ.1 (m + 5) v = I D) (e5 : σ.1 (m + 6) v = I w) (e6 : f_X3_depthOf m (I (v : Int)) σ = some (I q, σ)) (h : 0 ≤ z ∧ z ≤ 6) :
    (if I z = (0 : Int32) then (gd (bM (σ.2.2 0 4)) (gd (inb (I (v : Int)) 5) (some (σ.1 ((σ.2.2 0 4) + 1) (ix (I (v : Int))), σ)))) else (if I z = (1 : Int32) then (gd (bM (σ.2.2 0 4)) (gd (inb (I (v : Int)) 5) (some (σ.1 ((σ.2.2 0 4) + 2) (ix (I (v : Int))), σ)))) else (if I z = (2 : Int32) then (gd (bM (σ.2.2 0 4)) (gd (inb (I (v : Int)) 5) (some (σ.1 ((σ.2.2 0 4) + 3) (ix (I (v : Int))), σ)))) else (if I z = (3 : Int32) then (gd (bM (σ.2.2 0 4)) (gd (inb (I (v : Int)) 5) (some (σ.1 ((σ.2.2 0 4) + 4) (ix (I (v : Int))), σ)))) else (if I z = (4 : Int32) then (gd (bM (σ.2.2 0 4)) (gd (inb (I (v : Int)) 5) (some (σ.1 ((σ.2.2 0 4) + 5) (ix (I (v : Int))), σ)))) else (if I z = (5 : Int32) then (gd (bM (σ.2.2 0 4)) (gd (inb (I (v : Int)) 5) (some (σ.1 ((σ.2.2 0 4) + 6) (ix (I (v : Int))), σ)))) else (gd (bM (σ.2.2 0 4)) (bd (f_X3_depthOf (σ.2.2 0 4) (I (v : Int)) σ) fun r10 σ11 => some (r10, σ11)))))))))
      = some (I (if z = 0 then k else if z = 1 then l else if z = 2 then f else if z = 3 then a else if z = 4 then D else if z = 5 then w else q), σ) := by
  rw [hm]
  rcases (show z = 0 ∨ z = 1 ∨ z = 2 ∨ z = 3 ∨ z = 4 ∨ z = 5 ∨ z = 6 by omega) with c | c | c | c | c | c | c
  · have ei : (if z = 0 then k else if z = 1 then l else if z = 2 then f else if z = 3 then a else if z = 4 then D else if z = 5 then w else q) = k := by rw [if_pos c]
    rw [ei]
    simp (disch := omega) only [gd_t, bd_s, nm_W, nm_I, I_add, I_sub, I_mul, I_neg, I_le_t, I_le_f, I_lt_t, I_lt_f, I_eq_t, I_eq_f, I_inb', I_ix', Int.toNat_natCast, decide_true, decide_false, Bool.not_false, Bool.not_true, if_true, if_false, wi_eq, wi_eq', wi_ne, wi_row, wi_2, N0, N1, N2, N3, N4, N5, N6, N7, N8, N9, N10, N11, N12, N13, N14, N15, N16, N17, N18, N19, N20, N21, N22, N23, N24, N25, N26, N27, N28, N29, N30, N31, N32, N33, N34, N35, N36, N37, N38, N39, N40, N41, N42, N43, N45, N48, N57, N59, N88, N89, N97, N99, N120, N121, N122, N179, N200, N255, N300, N400, N880, N900, N999, N1019, N50000000, N100000000, N1000000000, N2147483647, N2147483648, bm, e0]
  · have ei : (if z = 0 then k else if z = 1 then l else if z = 2 then f else if z = 3 then a else if z = 4 then D else if z = 5 then w else q) = l := by rw [if_neg (by omega), if_pos c]
    rw [ei]
    simp (disch := omega) only [gd_t, bd_s, nm_W, nm_I, I_add, I_sub, I_mul, I_neg, I_le_t, I_le_f, I_lt_t, I_lt_f, I_eq_t, I_eq_f, I_inb', I_ix', Int.toNat_natCast, decide_true, decide_false, Bool.not_false, Bool.not_true, if_true, if_false, wi_eq, wi_eq', wi_ne, wi_row, wi_2, N0, N1, N2, N3, N4, N5, N6, N7, N8, N9, N10, N11, N12, N13, N14, N15, N16, N17, N18, N19, N20, N21, N22, N23, N24, N25, N26, N27, N28, N29, N30, N31, N32, N33, N34, N35, N36, N37, N38, N39, N40, N41, N42, N43, N45, N48, N57, N59, N88, N89, N97, N99, N120, N121, N122, N179, N200, N255, N300, N400, N880, N900, N999, N1019, N50000000, N100000000, N1000000000, N2147483647, N2147483648, bm, e1]
  · have ei : (if z = 0 then k else if z = 1 then l else if z = 2 then f else if z = 3 then a else if z = 4 then D else if z = 5 then w else q) = f := by rw [if_neg (by omega), if_neg (by omega), if_pos c]
    rw [ei]
    simp (disch := omega) only [gd_t, bd_s, nm_W, nm_I, I_add, I_sub, I_mul, I_neg, I_le_t, I_le_f, I_lt_t, I_lt_f, I_eq_t, I_eq_f, I_inb', I_ix', Int.toNat_natCast, decide_true, decide_false, Bool.not_false, Bool.not_true, if_true, if_false, wi_eq, wi_eq', wi_ne, wi_row, wi_2, N0, N1, N2, N3, N4, N5, N6, N7, N8, N9, N10, N11, N12, N13, N14, N15, N16, N17, N18, N19, N20, N21, N22, N23, N24, N25, N26, N27, N28, N29, N30, N31, N32, N33, N34, N35, N36, N37, N38, N39, N40, N41, N42, N43, N45, N48, N57, N59, N88, N89, N97, N99, N120, N121, N122, N179, N200, N255, N300, N400, N880, N900, N999, N1019, N50000000, N100000000, N1000000000, N2147483647, N2147483648, bm, e2]
  · have ei : (if z = 0 then k else if z = 1 then l else if z = 2 then f else if z = 3 then a else if z = 4 then D else if z = 5 then w else q) = a := by rw [if_neg (by omega), if_neg (by omega), if_neg (by omega), if_pos c]
    rw [ei]
    simp (disch := omega) only [gd_t, bd_s, nm_W, nm_I, I_add, I_sub, I_mul, I_neg, I_le_t, I_le_f, I_lt_t, I_lt_f, I_eq_t, I_eq_f, I_inb', I_ix', Int.toNat_natCast, decide_true, decide_false, Bool.not_false, Bool.not_true, if_true, if_false, wi_eq, wi_eq', wi_ne, wi_row, wi_2, N0, N1, N2, N3, N4, N5, N6, N7, N8, N9, N10, N11, N12, N13, N14, N15, N16, N17, N18, N19, N20, N21, N22, N23, N24, N25, N26, N27, N28, N29, N30, N31, N32, N33, N34, N35, N36, N37, N38, N39, N40, N41, N42, N43, N45, N48, N57, N59, N88, N89, N97, N99, N120, N121, N122, N179, N200, N255, N300, N400, N880, N900, N999, N1019, N50000000, N100000000, N1000000000, N2147483647, N2147483648, bm, e3]
  · have ei : (if z = 0 then k else if z = 1 then l else if z = 2 then f else if z = 3 then a else if z = 4 then D else if z = 5 then w else q) = D := by rw [if_neg (by omega), if_neg (by omega), if_neg (by omega), if_neg (by omega), if_pos c]
    rw [ei]
    simp (disch := omega) only [gd_t, bd_s, nm_W, nm_I, I_add, I_sub, I_mul, I_neg, I_le_t, I_le_f, I_lt_t, I_lt_f, I_eq_t, I_eq_f, I_inb', I_ix', Int.toNat_natCast, decide_true, decide_false, Bool.not_false, Bool.not_true, if_true, if_false, wi_eq, wi_eq', wi_ne, wi_row, wi_2, N0, N1, N2, N3, N4, N5, N6, N7, N8, N9, N10, N11, N12, N13, N14, N15, N16, N17, N18, N19, N20, N21, N22, N23, N24, N25, N26, N27, N28, N29, N30, N31, N32, N33, N34, N35, N36, N37, N38, N39, N40, N41, N42, N43, N45, N48, N57, N59, N88, N89, N97, N99, N120, N121, N122, N179, N200, N255, N300, N400, N880, N900, N999, N1019, N50000000, N100000000, N1000000000, N2147483647, N2147483648, bm, e4]
  · have ei : (if z = 0 then k else if z = 1 then l else if z = 2 then f else if z = 3 then a else if z = 4 then D else if z = 5 then w else q) = w := by rw [if_neg (by omega), if_neg (by omega), if_neg (by omega), if_neg (by omega), if_neg (by omega), if_pos c]
    rw [ei]
    simp (disch := omega) only [gd_t, bd_s, nm_W, nm_I, I_add, I_sub, I_mul, I_neg, I_le_t, I_le_f, I_lt_t, I_lt_f, I_eq_t, I_eq_f, I_inb', I_ix', Int.toNat_natCast, decide_true, decide_false, Bool.not_false, Bool.not_true, if_true, if_false, wi_eq, wi_eq', wi_ne, wi_row, wi_2, N0, N1, N2, N3, N4, N5, N6, N7, N8, N9, N10, N11, N12, N13, N14, N15, N16, N17, N18, N19, N20, N21, N22, N23, N24, N25, N26, N27, N28, N29, N30, N31, N32, N33, N34, N35, N36, N37, N38, N39, N40, N41, N42, N43, N45, N48, N57, N59, N88, N89, N97, N99, N120, N121, N122, N179, N200, N255, N300, N400, N880, N900, N999, N1019, N50000000, N100000000, N1000000000, N2147483647, N2147483648, bm, e5]
  · have ei : (if z = 0 then k else if z = 1 then l else if z = 2 then f else if z = 3 then a else if z = 4 then D else if z = 5 then w else q) = q := by rw [if_neg (by omega), if_neg (by omega), if_neg (by omega), if_neg (by omega), if_neg (by omega), if_neg (by omega)]
    rw [ei]
    simp (disch := omega) only [gd_t, bd_s, nm_W, nm_I, I_add, I_sub, I_mul, I_neg, I_le_t, I_le_f, I_lt_t, I_lt_f, I_eq_t, I_eq_f, I_inb', I_ix', Int.toNat_natCast, decide_true, decide_false, Bool.not_false, Bool.not_true, if_true, if_false, wi_eq, wi_eq', wi_ne, wi_row, wi_2, N0, N1, N2, N3, N4, N5, N6, N7, N8, N9, N10, N11, N12, N13, N14, N15, N16, N17, N18, N19, N20, N21, N22, N23, N24, N25, N26, N27, N28, N29, N30, N31, N32, N33, N34, N35, N36, N37, N38, N39, N40, N41, N42, N43, N45, N48, N57, N59, N88, N89, N97, N99, N120, N121, N122, N179, N200, N255, N300, N400, N880, N900, N999, N1019, N50000000, N100000000, N1000000000, N2147483647, N2147483648, bm, e6]
theorem bn_mul (a b : Bool) : bn a * bn b = bn (a && b) := by cases a <;> cases b <;> rfl
theorem m_venue (x y : Int32) : MT (f_X6_venue x y) (f_X7_venue x y) := by
  intro σ τ B ⟨m, V, E, pres, kp, d, p, L, W, dl, pl, et, b, t, s, rd, h, n, g, hG⟩ hB
  obtain ⟨v, rfl, hv⟩ := argI x
  obtain ⟨z, rfl, hz⟩ := argI y
  obtain ⟨bm, m10, m63⟩ := bMm hG.1
  have hM0 := hG.2.2.1.1.1
  have h5 := hM0.1.1
  have g21 : (wi τ 102 0 (I 0)).1 102 21 = I (bn pres) := by rw [wi_ne (by decide)]; exact hG.2.2.2.1.2.1
  have g14 : (wi τ 102 0 (I 0)).1 102 14 = I (V : Int) := by rw [wi_ne (by decide)]; exact hM0.2.2.1.1
  have c1 := cIsV (σ := σ) hv hG.2.1 bm hM0.2.1.1 h5
  have c2 := cWithin (σ := σ) (lo := 0) (hi := 6) hz (by unfold R; omega) (by unfold R; omega)
  obtain ⟨x, σ', τ', k1, k2, k3, k4⟩ := grq_ok (a := bn (decide (0 ≤ v ∧ v < (V : Int)) && decide (0 ≤ z ∧ z ≤ 6))) (nn := 1) (ss := 1) (low := I (-2147483648)) (K := fun σ2 => (if I z = (0 : Int32) then (gd (bM (σ2.2.2 0 4)) (gd (inb (I v) 5) (some (σ2.1 ((σ2.2.2 0 4) + 1) (ix (I v)), σ2)))) else (if I z = (1 : Int32) then (gd (bM (σ2.2.2 0 4)) (gd (inb (I v) 5) (some (σ2.1 ((σ2.2.2 0 4) + 2) (ix (I v)), σ2)))) else (if I z = (2 : Int32) then (gd (bM (σ2.2.2 0 4)) (gd (inb (I v) 5) (some (σ2.1 ((σ2.2.2 0 4) + 3) (ix (I v)), σ2)))) else (if I z = (3 : Int32) then (gd (bM (σ2.2.2 0 4)) (gd (inb (I v) 5) (some (σ2.1 ((σ2.2.2 0 4) + 4) (ix (I v)), σ2)))) else (if I z = (4 : Int32) then (gd (bM (σ2.2.2 0 4)) (gd (inb (I v) 5) (some (σ2.1 ((σ2.2.2 0 4) + 5) (ix (I v)), σ2)))) else (if I z = (5 : Int32) then (gd (bM (σ2.2.2 0 4)) (gd (inb (I v) 5) (some (σ2.1 ((σ2.2.2 0 4) + 6) (ix (I v)), σ2)))) else (gd (bM (σ2.2.2 0 4)) (bd (f_X3_depthOf (σ2.2.2 0 4) (I v) σ2) fun r10 σ11 => some (r10, σ11)))))))))) (fr := f_X7_venue (I v) (I z))
    hG (bn_bnd _) (by omega) (by omega)
    (fun hc => by
      rcases tc_cases (pres := pres) (a := bn (decide (0 ≤ v ∧ v < (V : Int)) && decide (0 ≤ z ∧ z ≤ 6))) (n := 1) (s := 1) with ⟨q1, q2⟩ | ⟨q1, q2, q3⟩ | ⟨-, -, q2, -⟩ | ⟨-, -, -, q2, -⟩ | ⟨-, -, -, -, q2⟩
      · rw [q2]; exact venue_1 (rIsV0 hv g21 (bn_bnd _) g14 h5 (Or.inl (by rw [q1]; rfl)))
      · rw [q3]
        by_cases y : 0 ≤ v ∧ v < (V : Int)
        · rw [decide_eq_true y, Bool.true_and] at q2
          exact venue_2 hz (rIsV1 hv g21 (by rw [q1]; rfl) g14 h5 y.1 y.2) (bn_0 q2)
        · exact venue_1 (rIsV0 hv g21 (bn_bnd _) g14 h5 (Or.inr y))
      · omega
      · omega
      · exact absurd q2 hc)
    (fun hp ha _ _ hM hR => by
      have y : (0 ≤ v ∧ v < (V : Int)) ∧ (0 ≤ z ∧ z ≤ 6) := by
        have q : (decide (0 ≤ v ∧ v < (V : Int)) && decide (0 ≤ z ∧ z ≤ 6)) = true := by
          cases e : (decide (0 ≤ v ∧ v < (V : Int)) && decide (0 ≤ z ∧ z ≤ 6)) with
          | true => rfl
          | false => rw [e] at ha; cases ha
        obtain ⟨q1, q2⟩ := Bool.and_eq_true_iff.mp q
        exact ⟨of_decide_eq_true q1, of_decide_eq_true q2⟩
      obtain ⟨⟨v0, v1⟩, zz⟩ := y
      have ev := rIsV1 (τ := wi τ 102 0 (I 0)) (x := bn pres) hv g21 (by rw [hp]; rfl) g14 h5 v0 v1
      obtain ⟨u, rfl⟩ := Int.eq_ofNat_of_zero_le v0
      have hu : u < V := by omega
      obtain ⟨a0, a1, a2, a3, a5, -⟩ := hM.2.1.2 u hu
      obtain ⟨b0, b1, b2, b3, b5, -⟩ := hM0.2.2.1.2 u hu
      have a4 := (hM.2.2.2.2.2.2.1 u hu).1
      have b4 := (hM0.2.2.2.2.2.2.1 u hu).2.1
      have a6 := cDepth hM.2.1 hM.1 hu (QM_p hM) hM.2.2.2.1.1
      have b6 := rDepth hM.2.2.1 hM.1 hu (QM_p hM) hM.2.2.2.1.2.1
      exact ⟨_, _, _, venue_K (by omega) (show (wi σ 0 12 (I 0)).2.2 0 4 = m from hG.2.1) bm a0 a1 a2 a3 a4 a5 a6 zz, venue_3 (by omega) ev b0 b1 b2 b3 b4 b5 b6 zz, QFr, RQr⟩)
  refine ⟨x, σ', τ', ?_, k2, ⟨m, V, E, pres, kp, d, p, L, W, dl, pl, et, b, t, s, rd, h, n, g, GA_B k3 (by omega)⟩, k4⟩
  rw [c_venue c1 c2 (bn_bnd _) (bn_bnd _), bn_mul]
  exact k1
