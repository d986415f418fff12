/-! PURE: charge, under, cost -/
theorem rIsV0 {τ : Wd} {V : Nat} {z x : Int} (hz : R z) (h21 : τ.1 102 21 = I x) (hx : 0 ≤ x ∧ x ≤ 1) (h14 : τ.1 102 14 = I (V : Int)) (hV : V ≤ 5) (hn : x = 0 ∨ ¬ (0 ≤ z ∧ z < (V : Int))) : f_X7_isVenue (I z) τ = some (I 0, τ) := by
  rw [rIsV hz h21 hx h14 hV, decide_eq_false (by omega), bn_f]
theorem rIsV1 {τ : Wd} {V : Nat} {z x : Int} (hz : R z) (h21 : τ.1 102 21 = I x) (hx : x = 1) (h14 : τ.1 102 14 = I (V : Int)) (hV : V ≤ 5) (h0 : 0 ≤ z) (h1 : z < (V : Int)) : f_X7_isVenue (I z) τ = some (I 1, τ) := by
  rw [rIsV hz h21 (by omega) h14 hV, decide_eq_true ⟨hx, h0, h1⟩, bn_t]
theorem bn_0 {P : Prop} {_i : Decidable P} (h : bn (decide P) = 0) : ¬ P := fun q => by
  rw [decide_eq_true q] at h
  cases h
theorem bn_1 {P : Prop} {_i : Decidable P} (h : bn (decide P) = 1) : P := by
  by_cases q : P
  · exact q
  · rw [decide_eq_false q] at h
    cases h
theorem bn_n0 {P : Prop} {_i : Decidable P} (h : bn (decide P) ≠ 0) : P := by
  by_cases q : P
  · exact q
  · rw [decide_eq_false q] at h
    exact absurd rfl h
theorem rIn1 {σ : Wd} {z lo hi : Int} (hz : R z) (hl : R lo) (hh : R hi) (h : lo ≤ z ∧ z ≤ hi) : f_X7_in (I z) (I lo) (I hi) σ = some (I 1, σ) := by rw [rIn hz hl hh, decide_eq_true h, bn_t]
theorem rIn0 {σ : Wd} {z lo hi : Int} (hz : R z) (hl : R lo) (hh : R hi) (h : ¬ (lo ≤ z ∧ z ≤ hi)) : f_X7_in (I z) (I lo) (I hi) σ = some (I 0, σ) := by rw [rIn hz hl hh, decide_eq_false h, bn_f]
def refW (τ : Wd) (c : Int32) : Wd := wi (wi (wi τ 102 0 (I 0)) 102 1 c) 102 2 (I (-1))
theorem charge_1 {τ : Wd} {v z : Int} (e : f_X7_isVenue (I v) (wi τ 102 0 (I 0)) = some (I 0, wi τ 102 0 (I 0))) : f_X7_charge (I v) (I z) τ = some (I (-2147483648), refW τ (I 1)) := by
  unfold f_X7_charge refW
  simp (disch := omega) only [gd_t, bd_s, nm_W, nm_I, I_add, I_sub, I_mul, I_neg, I_le_t, I_le_f, I_lt_t, I_lt_f, I_eq_t, I_eq_f, I_inb', I_ix', Int.toNat_natCast, decide_true, decide_false, Bool.not_false, Bool.not_true, if_true, if_false, wi_eq, wi_eq', wi_ne, wi_row, wi_2, N0, N1, N2, N3, N4, N5, N6, N7, N8, N9, N10, N11, N12, N13, N14, N15, N16, N17, N18, N19, N20, N21, N22, N23, N24, N25, N26, N27, N28, N29, N30, N31, N32, N33, N34, N35, N36, N37, N38, N39, N40, N41, N42, N43, N45, N48, N57, N59, N88, N89, N97, N99, N120, N121, N122, N179, N200, N255, N300, N400, N880, N900, N999, N1019, N50000000, N100000000, N1000000000, N2147483647, N2147483648, e, refL]
theorem charge_2 {τ : Wd} {v z : Int} (e : f_X7_isVenue (I v) (wi τ 102 0 (I 0)) = some (I 1, wi τ 102 0 (I 0))) (e2 : f_X7_in (I z) (I 0) (I 120) (wi τ 102 0 (I 0)) = some (I 0, wi τ 102 0 (I 0))) : f_X7_charge (I v) (I z) τ = some (I (-2147483648), refW τ (I 2)) := by
  unfold f_X7_charge refW
  simp (disch := omega) only [gd_t, bd_s, nm_W, nm_I, I_add, I_sub, I_mul, I_neg, I_le_t, I_le_f, I_lt_t, I_lt_f, I_eq_t, I_eq_f, I_inb', I_ix', Int.toNat_natCast, decide_true, decide_false, Bool.not_false, Bool.not_true, if_true, if_false, wi_eq, wi_eq', wi_ne, wi_row, wi_2, N0, N1, N2, N3, N4, N5, N6, N7, N8, N9, N10, N11, N12, N13, N14, N15, N16, N17, N18, N19, N20, N21, N22, N23, N24, N25, N26, N27, N28, N29, N30, N31, N32, N33, N34, N35, N36, N37, N38, N39, N40, N41, N42, N43, N45, N48, N57, N59, N88, N89, N97, N99, N120, N121, N122, N179, N200, N255, N300, N400, N880, N900, N999, N1019, N50000000, N100000000, N1000000000, N2147483647, N2147483648, e, e2, refL, f_X7_charge_47]
theorem charge_3 {τ : Wd} {v z x : Int} (e : f_X7_isVenue (I v) (wi τ 102 0 (I 0)) = some (I 1, wi τ 102 0 (I 0))) (e2 : f_X7_in (I z) (I 0) (I 120) (wi τ 102 0 (I 0)) = some (I 1, wi τ 102 0 (I 0))) (e3 : f_X7_chargeOf (I v) (I z) (wi τ 102 0 (I 0)) = some (I x, wi τ 102 0 (I 0))) : f_X7_charge (I v) (I z) τ = bd (f_X7_good (I x) (wi τ 102 0 (I 0))) (fun r s => some (r, s)) := by
  unfold f_X7_charge f_X7_charge_47
  simp (disch := omega) only [gd_t, bd_s, nm_W, nm_I, I_add, I_sub, I_mul, I_neg, I_le_t, I_le_f, I_lt_t, I_lt_f, I_eq_t, I_eq_f, I_inb', I_ix', Int.toNat_natCast, decide_true, decide_false, Bool.not_false, Bool.not_true, if_true, if_false, wi_eq, wi_eq', wi_ne, wi_row, wi_2, N0, N1, N2, N3, N4, N5, N6, N7, N8, N9, N10, N11, N12, N13, N14, N15, N16, N17, N18, N19, N20, N21, N22, N23, N24, N25, N26, N27, N28, N29, N30, N31, N32, N33, N34, N35, N36, N37, N38, N39, N40, N41, N42, N43, N45, N48, N57, N59, N88, N89, N97, N99, N120, N121, N122, N179, N200, N255, N300, N400, N880, N900, N999, N1019, N50000000, N100000000, N1000000000, N2147483647, N2147483648, e, e2, e3]
theorem under_1 {τ : Wd} {v z : Int} (e : f_X7_isVenue (I v) (wi τ 102 0 (I 0)) = some (I 0, wi τ 102 0 (I 0))) : f_X7_under (I v) (I z) τ = some (I (-1), refW τ (I 1)) := by
  unfold f_X7_under refW
  simp (disch := omega) only [gd_t, bd_s, nm_W, nm_I, I_add, I_sub, I_mul, I_neg, I_le_t, I_le_f, I_lt_t, I_lt_f, I_eq_t, I_eq_f, I_inb', I_ix', Int.toNat_natCast, decide_true, decide_false, Bool.not_false, Bool.not_true, if_true, if_false, wi_eq, wi_eq', wi_ne, wi_row, wi_2, N0, N1, N2, N3, N4, N5, N6, N7, N8, N9, N10, N11, N12, N13, N14, N15, N16, N17, N18, N19, N20, N21, N22, N23, N24, N25, N26, N27, N28, N29, N30, N31, N32, N33, N34, N35, N36, N37, N38, N39, N40, N41, N42, N43, N45, N48, N57, N59, N88, N89, N97, N99, N120, N121, N122, N179, N200, N255, N300, N400, N880, N900, N999, N1019, N50000000, N100000000, N1000000000, N2147483647, N2147483648, e, refR]
theorem under_2 {τ : Wd} {v z : Int} (e : f_X7_isVenue (I v) (wi τ 102 0 (I 0)) = some (I 1, wi τ 102 0 (I 0))) (e2 : f_X7_in (I z) (I 1) (I 999) (wi τ 102 0 (I 0)) = some (I 0, wi τ 102 0 (I 0))) : f_X7_under (I v) (I z) τ = some (I (-1), refW τ (I 2)) := by
  unfold f_X7_under refW
  simp (disch := omega) only [gd_t, bd_s, nm_W, nm_I, I_add, I_sub, I_mul, I_neg, I_le_t, I_le_f, I_lt_t, I_lt_f, I_eq_t, I_eq_f, I_inb', I_ix', Int.toNat_natCast, decide_true, decide_false, Bool.not_false, Bool.not_true, if_true, if_false, wi_eq, wi_eq', wi_ne, wi_row, wi_2, N0, N1, N2, N3, N4, N5, N6, N7, N8, N9, N10, N11, N12, N13, N14, N15, N16, N17, N18, N19, N20, N21, N22, N23, N24, N25, N26, N27, N28, N29, N30, N31, N32, N33, N34, N35, N36, N37, N38, N39, N40, N41, N42, N43, N45, N48, N57, N59, N88, N89, N97, N99, N120, N121, N122, N179, N200, N255, N300, N400, N880, N900, N999, N1019, N50000000, N100000000, N1000000000, N2147483647, N2147483648, e, e2, refR, f_X7_under_48]
theorem under_3 {τ : Wd} {v z x : Int} (e : f_X7_isVenue (I v) (wi τ 102 0 (I 0)) = some (I 1, wi τ 102 0 (I 0))) (e2 : f_X7_in (I z) (I 1) (I 999) (wi τ 102 0 (I 0)) = some (I 1, wi τ 102 0 (I 0))) (e3 : f_X7_unitsTo (I v) (I z) (wi τ 102 0 (I 0)) = some (I x, wi τ 102 0 (I 0))) : f_X7_under (I v) (I z) τ = bd (f_X7_good (I x) (wi τ 102 0 (I 0))) (fun r s => some (r, s)) := by
  unfold f_X7_under f_X7_under_48
  simp (disch := omega) only [gd_t, bd_s, nm_W, nm_I, I_add, I_sub, I_mul, I_neg, I_le_t, I_le_f, I_lt_t, I_lt_f, I_eq_t, I_eq_f, I_inb', I_ix', Int.toNat_natCast, decide_true, decide_false, Bool.not_false, Bool.not_true, if_true, if_false, wi_eq, wi_eq', wi_ne, wi_row, wi_2, N0, N1, N2, N3, N4, N5, N6, N7, N8, N9, N10, N11, N12, N13, N14, N15, N16, N17, N18, N19, N20, N21, N22, N23, N24, N25, N26, N27, N28, N29, N30, N31, N32, N33, N34, N35, N36, N37, N38, N39, N40, N41, N42, N43, N45, N48, N57, N59, N88, N89, N97, N99, N120, N121, N122, N179, N200, N255, N300, N400, N880, N900, N999, N1019, N50000000, N100000000, N1000000000, N2147483647, N2147483648, e, e2, e3]
theorem RQr {τ : Wd} : RQ τ τ := ⟨fun _ _ _ => rfl, fun _ _ => rfl, rfl⟩
theorem QFr {σ : Wd} : QF σ σ := ⟨fun _ _ => rfl, rfl⟩
theorem m_charge (x y : Int32) : MT (f_X6_charge x y) (f_X7_charge x y) := by
  intro σ τ B ⟨m, V, E, pres, kp, d, p, L, W, dl, pl, et, b, t, s, rd, h, n, g, hG⟩ hB
  obtain ⟨v, rfl, hv⟩ := argI x
  obtain ⟨z, rfl, hz⟩ := argI y
  obtain ⟨bm, m10, m63⟩ := bMm hG.1
  have h5 := hG.2.2.1.1.1.1.1
  have g21 : (wi τ 102 0 (I 0)).1 102 21 = I (bn pres) := by rw [wi_ne (by decide)]; exact hG.2.2.2.1.2.1
  have g14 : (wi τ 102 0 (I 0)).1 102 14 = I (V : Int) := by rw [wi_ne (by decide)]; exact hG.2.2.1.1.1.2.2.1.1
  have c1 := cIsV (σ := σ) hv hG.2.1 bm hG.2.2.1.1.1.2.1.1 h5
  have c2 := cWithin (σ := σ) (lo := 0) (hi := 120) hz (by unfold R; omega) (by unfold R; omega)
  obtain ⟨x, σ', τ', k1, k2, k3, k4⟩ := grq_ok (a := bn (decide (0 ≤ v ∧ v < (V : Int)))) (nn := bn (decide (0 ≤ z ∧ z ≤ 120))) (ss := 1) (low := I (-2147483648)) (K := fun σ6 => gd (bM (σ6.2.2 0 4)) (bd (f_X3_chargeOf (σ6.2.2 0 4) (I v) (I z) σ6) fun r8 σ9 => some (r8, σ9))) (fr := f_X7_charge (I v) (I z))
    hG (bn_bnd _) (bn_bnd _) (by omega)
    (fun hc => by
      rcases tc_cases (pres := pres) (a := bn (decide (0 ≤ v ∧ v < (V : Int)))) (n := bn (decide (0 ≤ z ∧ z ≤ 120))) (s := 1) with ⟨q1, q2⟩ | ⟨q1, q2, q3⟩ | ⟨q1, q2, q3, q4⟩ | ⟨-, -, -, q2, -⟩ | ⟨-, -, -, -, q2⟩
      · rw [q2]; exact charge_1 (rIsV0 hv g21 (bn_bnd _) g14 h5 (Or.inl (by rw [q1]; rfl)))
      · rw [q3]; exact charge_1 (rIsV0 hv g21 (bn_bnd _) g14 h5 (Or.inr (bn_0 q2)))
      · have y := bn_n0 q2
        rw [q4]; exact charge_2 (rIsV1 hv g21 (by rw [q1]; rfl) g14 h5 y.1 y.2) (rIn0 hz (by unfold R; omega) (by unfold R; omega) (bn_0 q3))
      · omega
      · exact absurd q2 hc)
    (fun hp ha hn _ hM hR => by
      have y := bn_1 ha
      have w := bn_1 hn
      obtain ⟨u, hu⟩ := Int.eq_ofNat_of_zero_le y.1
      have e1 := cCharge (v := u) (n := z) hM.2.1 hM.1 (by omega) (by omega) (by omega)
      have e2 := rCharge (v := u) (n := z) hM.2.2.1 hM.1 (by omega) (by omega) (by omega)
      rw [← hu] at e1 e2
      exact ⟨_, _, _, by rw [show (wi σ 0 12 (I 0)).2.2 0 4 = m from hG.2.1, bm, gd_t, e1, bd_s], charge_3 (rIsV1 hv g21 (by rw [hp]; rfl) g14 h5 y.1 y.2) (rIn1 hz (by unfold R; omega) (by unfold R; omega) w) e2, QFr, RQr⟩)
  refine ⟨x, σ', τ', ?_, k2, ⟨m, V, E, pres, kp, d, p, L, W, dl, pl, et, b, t, s, rd, h, n, g, GA_B k3 (by omega)⟩, k4⟩
  unfold f_X6_charge
  rw [c1, bd_s, show (0 : Int32) = I 0 from rfl, show (120 : Int32) = I 120 from rfl, c2, bd_s]
  exact k1
theorem m_under (x y : Int32) : MT (f_X6_under x y) (f_X7_under x y) := by
  intro σ τ B ⟨m, V, E, pres, kp, d, p, L, W, dl, pl, et, b, t, s, rd, h, n, g, hG⟩ hB
  obtain ⟨v, rfl, hv⟩ := argI x
  obtain ⟨z, rfl, hz⟩ := argI y
  obtain ⟨bm, m10, m63⟩ := bMm hG.1
  have h5 := hG.2.2.1.1.1.1.1
  have g21 : (wi τ 102 0 (I 0)).1 102 21 = I (bn pres) := by rw [wi_ne (by decide)]; exact hG.2.2.2.1.2.1
  have g14 : (wi τ 102 0 (I 0)).1 102 14 = I (V : Int) := by rw [wi_ne (by decide)]; exact hG.2.2.1.1.1.2.2.1.1
  have c1 := cIsV (σ := σ) hv hG.2.1 bm hG.2.2.1.1.1.2.1.1 h5
  have c2 := cWithin (σ := σ) (lo := 1) (hi := 999) hz (by unfold R; omega) (by unfold R; omega)
  obtain ⟨x, σ', τ', k1, k2, k3, k4⟩ := grq_ok (a := bn (decide (0 ≤ v ∧ v < (V : Int)))) (nn := bn (decide (1 ≤ z ∧ z ≤ 999))) (ss := 1) (low := I (-1)) (K := fun σ6 => gd (bM (σ6.2.2 0 4)) (bd (f_X3_unitsUpTo (σ6.2.2 0 4) (I v) (I z) σ6) fun r8 σ9 => some (r8, σ9))) (fr := f_X7_under (I v) (I z))
    hG (bn_bnd _) (bn_bnd _) (by omega)
    (fun hc => by
      rcases tc_cases (pres := pres) (a := bn (decide (0 ≤ v ∧ v < (V : Int)))) (n := bn (decide (1 ≤ z ∧ z ≤ 999))) (s := 1) with ⟨q1, q2⟩ | ⟨q1, q2, q3⟩ | ⟨q1, q2, q3, q4⟩ | ⟨-, -, -, q2, -⟩ | ⟨-, -, -, -, q2⟩
      · rw [q2]; exact under_1 (rIsV0 hv g21 (bn_bnd _) g14 h5 (Or.inl (by rw [q1]; rfl)))
      · rw [q3]; exact under_1 (rIsV0 hv g21 (bn_bnd _) g14 h5 (Or.inr (bn_0 q2)))
      · have y := bn_n0 q2
        rw [q4]; exact under_2 (rIsV1 hv g21 (by rw [q1]; rfl) g14 h5 y.1 y.2) (rIn0 hz (by unfold R; omega) (by unfold R; omega) (bn_0 q3))
      · omega
      · exact absurd q2 hc)
    (fun hp ha hn _ hM hR => by
      have y := bn_1 ha
      have w := bn_1 hn
      obtain ⟨u, hu⟩ := Int.eq_ofNat_of_zero_le y.1
      have e1 := cUnits (v := u) (p := z) hM.2.1 hM.1 (by omega) hz
      have e2 := rUnits (v := u) (p := z) hM.2.2.1 hM.1 (by omega) hz
      rw [← hu] at e1 e2
      exact ⟨_, _, _, by rw [show (wi σ 0 12 (I 0)).2.2 0 4 = m from hG.2.1, bm, gd_t, e1, bd_s], under_3 (rIsV1 hv g21 (by rw [hp]; rfl) g14 h5 y.1 y.2) (rIn1 hz (by unfold R; omega) (by unfold R; omega) w) e2, QFr, RQr⟩)
  refine ⟨x, σ', τ', ?_, k2, ⟨m, V, E, pres, kp, d, p, L, W, dl, pl, et, b, t, s, rd, h, n, g, GA_B k3 (by omega)⟩, k4⟩
  unfold f_X6_under
  rw [c1, bd_s, show (1 : Int32) = I 1 from rfl, show (999 : Int32) = I 999 from rfl, c2, bd_s]
  exact k1
/-! can so much be had -/
def hv_ (d : MD) (p : Int) (v : Nat) (z : Int) : Bool := decide (0 ≤ z ∧ z % d.lo v = 0 ∧ z ≤ dep d p v)
theorem cHad {m : Nat} {σ : Wd} {V v : Nat} {d : MD} {p z : Int} (h : CV m σ V d) (hd : MDok d V) (hv : v < V) (hp : R p) (hl : σ.1 m 1 = I p) (hz : R z) : f_X3_canBeHad m (I (v : Int)) (I z) σ = some (I (bn (decide (z ≤ 120) && hv_ d p v z)), σ) := by
  have v5 : v < 5 := Nat.lt_of_lt_of_le hv hd.1
  obtain ⟨-, lb, -⟩ := hd.2 v hv
  have db := dep_bnd (p := p) hd hv
  have e1 := cLot h hd hv
  have e2 := cDepth h hd hv hp hl
  have hzR := hz
  unfold R at hzR
  unfold hv_
  clear h
  by_cases c1 : z < 0
  · rw [decide_eq_false (show ¬ (0 ≤ z ∧ z % d.lo v = 0 ∧ z ≤ dep d p v) by omega), Bool.and_false, bn_f]
    unfold f_X3_canBeHad
    simp (disch := omega) only [gd_t, bd_s, nm_W, nm_I, I_add, I_sub, I_mul, I_neg, I_le_t, I_le_f, I_lt_t, I_lt_f, I_eq_t, I_eq_f, I_inb', I_ix', Int.toNat_natCast, decide_true, decide_false, Bool.not_false, Bool.not_true, if_true, if_false, wi_eq, wi_eq', wi_ne, wi_row, wi_2, N0, N1, N2, N3, N4, N5, N6, N7, N8, N9, N10, N11, N12, N13, N14, N15, N16, N17, N18, N19, N20, N21, N22, N23, N24, N25, N26, N27, N28, N29, N30, N31, N32, N33, N34, N35, N36, N37, N38, N39, N40, N41, N42, N43, N45, N48, N57, N59, N88, N89, N97, N99, N120, N121, N122, N179, N200, N255, N300, N400, N880, N900, N999, N1019, N50000000, N100000000, N1000000000, N2147483647, N2147483648, f_X3_canBeHad_33, f_X3_canBeHad_34, isb_0]
  · by_cases c2 : 120 < z
    · rw [decide_eq_false (show ¬ z ≤ 120 by omega), Bool.false_and, bn_f]
      unfold f_X3_canBeHad
      simp (disch := omega) only [gd_t, bd_s, nm_W, nm_I, I_add, I_sub, I_mul, I_neg, I_le_t, I_le_f, I_lt_t, I_lt_f, I_eq_t, I_eq_f, I_inb', I_ix', Int.toNat_natCast, decide_true, decide_false, Bool.not_false, Bool.not_true, if_true, if_false, wi_eq, wi_eq', wi_ne, wi_row, wi_2, N0, N1, N2, N3, N4, N5, N6, N7, N8, N9, N10, N11, N12, N13, N14, N15, N16, N17, N18, N19, N20, N21, N22, N23, N24, N25, N26, N27, N28, N29, N30, N31, N32, N33, N34, N35, N36, N37, N38, N39, N40, N41, N42, N43, N45, N48, N57, N59, N88, N89, N97, N99, N120, N121, N122, N179, N200, N255, N300, N400, N880, N900, N999, N1019, N50000000, N100000000, N1000000000, N2147483647, N2147483648, f_X3_canBeHad_33, f_X3_canBeHad_34, isb_0]
    · have me := Int.emod_nonneg z (show d.lo v ≠ 0 by omega)
      have ml := Int.emod_lt_of_pos z (show 0 < d.lo v by omega)
      have em : I z % I (d.lo v) = I (z % d.lo v) := I_mod hz (by unfold R; omega) (by omega) (by omega)
      rw [decide_eq_true (show z ≤ 120 by omega), Bool.true_and]
      by_cases c3 : z % d.lo v = 0
      · by_cases c4 : z ≤ dep d p v
        · rw [decide_eq_true ⟨by omega, c3, c4⟩, bn_t]
          unfold f_X3_canBeHad
          simp (disch := omega) only [gd_t, bd_s, nm_W, nm_I, I_add, I_sub, I_mul, I_neg, I_le_t, I_le_f, I_lt_t, I_lt_f, I_eq_t, I_eq_f, I_inb', I_ix', Int.toNat_natCast, decide_true, decide_false, Bool.not_false, Bool.not_true, if_true, if_false, wi_eq, wi_eq', wi_ne, wi_row, wi_2, N0, N1, N2, N3, N4, N5, N6, N7, N8, N9, N10, N11, N12, N13, N14, N15, N16, N17, N18, N19, N20, N21, N22, N23, N24, N25, N26, N27, N28, N29, N30, N31, N32, N33, N34, N35, N36, N37, N38, N39, N40, N41, N42, N43, N45, N48, N57, N59, N88, N89, N97, N99, N120, N121, N122, N179, N200, N255, N300, N400, N880, N900, N999, N1019, N50000000, N100000000, N1000000000, N2147483647, N2147483648, e1, em, e2, f_X3_canBeHad_34, isb_1]
        · rw [decide_eq_false (fun q => c4 q.2.2), bn_f]
          unfold f_X3_canBeHad
          simp (disch := omega) only [gd_t, bd_s, nm_W, nm_I, I_add, I_sub, I_mul, I_neg, I_le_t, I_le_f, I_lt_t, I_lt_f, I_eq_t, I_eq_f, I_inb', I_ix', Int.toNat_natCast, decide_true, decide_false, Bool.not_false, Bool.not_true, if_true, if_false, wi_eq, wi_eq', wi_ne, wi_row, wi_2, N0, N1, N2, N3, N4, N5, N6, N7, N8, N9, N10, N11, N12, N13, N14, N15, N16, N17, N18, N19, N20, N21, N22, N23, N24, N25, N26, N27, N28, N29, N30, N31, N32, N33, N34, N35, N36, N37, N38, N39, N40, N41, N42, N43, N45, N48, N57, N59, N88, N89, N97, N99, N120, N121, N122, N179, N200, N255, N300, N400, N880, N900, N999, N1019, N50000000, N100000000, N1000000000, N2147483647, N2147483648, e1, em, e2, f_X3_canBeHad_33, f_X3_canBeHad_34, isb_0]
      · rw [decide_eq_false (fun q => c3 q.2.1), bn_f]
        unfold f_X3_canBeHad
        simp (disch := omega) only [gd_t, bd_s, nm_W, nm_I, I_add, I_sub, I_mul, I_neg, I_le_t, I_le_f, I_lt_t, I_lt_f, I_eq_t, I_eq_f, I_inb', I_ix', Int.toNat_natCast, decide_true, decide_false, Bool.not_false, Bool.not_true, if_true, if_false, wi_eq, wi_eq', wi_ne, wi_row, wi_2, N0, N1, N2, N3, N4, N5, N6, N7, N8, N9, N10, N11, N12, N13, N14, N15, N16, N17, N18, N19, N20, N21, N22, N23, N24, N25, N26, N27, N28, N29, N30, N31, N32, N33, N34, N35, N36, N37, N38, N39, N40, N41, N42, N43, N45, N48, N57, N59, N88, N89, N97, N99, N120, N121, N122, N179, N200, N255, N300, N400, N880, N900, N999, N1019, N50000000, N100000000, N1000000000, N2147483647, N2147483648, e1, em, f_X3_canBeHad_33, f_X3_canBeHad_34, isb_0]
theorem rHad {τ : Wd} {V v : Nat} {d : MD} {p z : Int} (h : RV τ V d) (hd : MDok d V) (hv : v < V) (hp : R p) (hl : τ.1 102 12 = I p) (hz : R z) : f_X7_canHave (I (v : Int)) (I z) τ = some (I (bn (hv_ d p v z)), τ) := by
  have v5 : v < 5 := Nat.lt_of_lt_of_le hv hd.1
  obtain ⟨-, lb, -⟩ := hd.2 v hv
  have db := dep_bnd (p := p) hd hv
  have e1 := rLot h hd hv
  have e2 := rDepth h hd hv hp hl
  have hzR := hz
  unfold R at hzR
  unfold hv_
  clear h
  by_cases c1 : z < 0
  · rw [decide_eq_false (show ¬ (0 ≤ z ∧ z % d.lo v = 0 ∧ z ≤ dep d p v) by omega), bn_f]
    unfold f_X7_canHave
    simp (disch := omega) only [gd_t, bd_s, nm_W, nm_I, I_add, I_sub, I_mul, I_neg, I_le_t, I_le_f, I_lt_t, I_lt_f, I_eq_t, I_eq_f, I_inb', I_ix', Int.toNat_natCast, decide_true, decide_false, Bool.not_false, Bool.not_true, if_true, if_false, wi_eq, wi_eq', wi_ne, wi_row, wi_2, N0, N1, N2, N3, N4, N5, N6, N7, N8, N9, N10, N11, N12, N13, N14, N15, N16, N17, N18, N19, N20, N21, N22, N23, N24, N25, N26, N27, N28, N29, N30, N31, N32, N33, N34, N35, N36, N37, N38, N39, N40, N41, N42, N43, N45, N48, N57, N59, N88, N89, N97, N99, N120, N121, N122, N179, N200, N255, N300, N400, N880, N900, N999, N1019, N50000000, N100000000, N1000000000, N2147483647, N2147483648, f_X7_canHave_27, f_X7_canHave_28, isb_0]
  · have me := Int.emod_nonneg z (show d.lo v ≠ 0 by omega)
    have ml := Int.emod_lt_of_pos z (show 0 < d.lo v by omega)
    have em : I z % I (d.lo v) = I (z % d.lo v) := I_mod hz (by unfold R; omega) (by omega) (by omega)
    by_cases c3 : z % d.lo v = 0
    · by_cases c4 : z ≤ dep d p v
      · rw [decide_eq_true ⟨by omega, c3, c4⟩, bn_t]
        unfold f_X7_canHave
        simp (disch := omega) only [gd_t, bd_s, nm_W, nm_I, I_add, I_sub, I_mul, I_neg, I_le_t, I_le_f, I_lt_t, I_lt_f, I_eq_t, I_eq_f, I_inb', I_ix', Int.toNat_natCast, decide_true, decide_false, Bool.not_false, Bool.not_true, if_true, if_false, wi_eq, wi_eq', wi_ne, wi_row, wi_2, N0, N1, N2, N3, N4, N5, N6, N7, N8, N9, N10, N11, N12, N13, N14, N15, N16, N17, N18, N19, N20, N21, N22, N23, N24, N25, N26, N27, N28, N29, N30, N31, N32, N33, N34, N35, N36, N37, N38, N39, N40, N41, N42, N43, N45, N48, N57, N59, N88, N89, N97, N99, N120, N121, N122, N179, N200, N255, N300, N400, N880, N900, N999, N1019, N50000000, N100000000, N1000000000, N2147483647, N2147483648, e1, em, e2, f_X7_canHave_28, isb_1]
      · rw [decide_eq_false (fun q => c4 q.2.2), bn_f]
        unfold f_X7_canHave
        simp (disch := omega) only [gd_t, bd_s, nm_W, nm_I, I_add, I_sub, I_mul, I_neg, I_le_t, I_le_f, I_lt_t, I_lt_f, I_eq_t, I_eq_f, I_inb', I_ix', Int.toNat_natCast, decide_true, decide_false, Bool.not_false, Bool.not_true, if_true, if_false, wi_eq, wi_eq', wi_ne, wi_row, wi_2, N0, N1, N2, N3, N4, N5, N6, N7, N8, N9, N10, N11, N12, N13, N14, N15, N16, N17, N18, N19, N20, N21, N22, N23, N24, N25, N26, N27, N28, N29, N30, N31, N32, N33, N34, N35, N36, N37, N38, N39, N40, N41, N42, N43, N45, N48, N57, N59, N88, N89, N97, N99, N120, N121, N122, N179, N200, N255, N300, N400, N880, N900, N999, N1019, N50000000, N100000000, N1000000000, N2147483647, N2147483648, e1, em, e2, f_X7_canHave_27, f_X7_canHave_28, isb_0]
    · rw [decide_eq_false (fun q => c3 q.2.1), bn_f]
      unfold f_X7_canHave
      simp (disch := omega) only [gd_t, bd_s, nm_W, nm_I, I_add, I_sub, I_mul, I_neg, I_le_t, I_le_f, I_lt_t, I_lt_f, I_eq_t, I_eq_f, I_inb', I_ix', Int.toNat_natCast, decide_true, decide_false, Bool.not_false, Bool.not_true, if_true, if_false, wi_eq, wi_eq', wi_ne, wi_row, wi_2, N0, N1, N2, N3, N4, N5, N6, N7, N8, N9, N10, N11, N12, N13, N14, N15, N16, N17, N18, N19, N20, N21, N22, N23, N24, N25, N26, N27, N28, N29, N30, N31, N32, N33, N34, N35, N36, N37, N38, N39, N40, N41, N42, N43, N45, N48, N57, N59, N88, N89, N97, N99, N120, N121, N122, N179, N200, N255, N300, N400, N880, N900, N999, N1019, N50000000, N100000000, N1000000000, N2147483647, N2147483648, e1, em, f_X7_canHave_27, f_X7_canHave_28, isb_0]
