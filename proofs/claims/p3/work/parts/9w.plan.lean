/-! PURE: plan, adopt -/
theorem QM_pl {m V : Nat} {σ τ σ' τ' : Wd} {d : MD} {p L W : Int} {dl pl pl' : Nat → Int} (h : QM m σ τ V d p L W dl pl) (c : ∀ k, m ≤ k → k ≤ m + 9 → k ≠ m + 7 → σ'.1 k = σ.1 k) (c7 : ∀ v, v < V → σ'.1 (m + 7) v = I (pl' v)) (e2 : ∀ i, 12 ≤ i → i ≤ 14 → τ'.1 102 i = τ.1 102 i) (e3 : τ'.1 103 = τ.1 103) (e4 : τ'.1 104 = τ.1 104) (e5 : ∀ i, i < 36 → τ'.1 112 i = τ.1 112 i) (x : ∀ v, v < V → τ'.1 112 (43 + v) = I (pl' v)) (hb : ∀ v, v < V → 0 ≤ pl' v ∧ pl' v ≤ 120) : QM m σ' τ' V d p L W dl pl' := by
  obtain ⟨a1, a2, a3, a4, a5, a6, a7, a8⟩ := h
  have cm := c m (by omega) (by omega) (by omega)
  refine ⟨a1, ?_, RV_cells a3 a1.1 (lv6 a1) (e2 14 (by decide) (by decide)) e3 e4 (fun i hi => e5 i (by omega)), ?_, ?_, ?_, fun v hv => ?_, fun v hv => ⟨c7 v hv, x v hv, (hb v hv).1, (hb v hv).2⟩⟩
  · unfold CV at a2 ⊢
    rw [cm, c (m + 1) (by omega) (by omega) (by omega), c (m + 2) (by omega) (by omega) (by omega), c (m + 3) (by omega) (by omega) (by omega), c (m + 4) (by omega) (by omega) (by omega), c (m + 6) (by omega) (by omega) (by omega), c (m + 8) (by omega) (by omega) (by omega), c (m + 9) (by omega) (by omega) (by omega)]
    exact a2
  · rw [cm, e2 12 (by decide) (by decide)]; exact a4
  · rw [cm, e2 13 (by decide) (by decide)]; exact a5
  · rw [cm, e5 35 (by decide)]; exact a6
  · rw [c (m + 5) (by omega) (by omega) (by omega), e3]; exact a7 v hv
def pk (d : MD) (p W : Int) (pl : Nat → Int) (V u : Nat) (q : Int) : Bool := hv_ d p u q && decide (pu pl V 0 - pl u + q ≤ W)
theorem pk_120 {d : MD} {p W q : Int} {pl : Nat → Int} {V u : Nat} (hp : PB pl V) (hu : u < V) (hW : W ≤ 120) : ((decide (q ≤ 120) && hv_ d p u q) && decide (pu pl V 0 - pl u + q ≤ W)) = pk d p W pl V u q := by
  unfold pk
  have pg := (pu_ge (f := pl) (w := u) V 0 (fun w _ h2 => (hp w (by omega)).1) (by omega) (by omega)).1
  by_cases c : q ≤ 120
  · rw [decide_eq_true c, Bool.true_and]
  · rw [decide_eq_false c, Bool.false_and, Bool.false_and, decide_eq_false (show ¬ pu pl V 0 - pl u + q ≤ W by omega), Bool.and_false]
theorem c_cbp {m V u : Nat} {σ τ : Wd} {d : MD} {p L W q : Int} {dl pl : Nat → Int} (hM : QM m σ τ V d p L W dl pl) (hu : u < V) (hq : R q) : f_X3_canBePlanned m (I (u : Int)) (I q) σ = some (I (bn (pk d p W pl V u q)), σ) := by
  have h5 := hM.1.1
  have hW := hM.2.2.2.2.2.1
  have e1 := cHad (z := q) hM.2.1 hM.1 hu (QM_p hM) hM.2.2.2.1.1 hq
  have e2 := cPU (pl := pl) hM.2.1.1 h5 (fun v hv => (hM.2.2.2.2.2.2.2 v hv).1)
  have hpl := hM.2.2.2.2.2.2.2 u hu
  have pb := pu_bnd (QM_pb hM) V 0 (by omega)
  rw [← pk_120 (QM_pb hM) hu hW.2.2.2]
  have w0 := hW.1
  cases c : (decide (q ≤ 120) && hv_ d p u q) with
  | false =>
    rw [c, bn_f] at e1
    rw [Bool.false_and, bn_f]
    unfold f_X3_canBePlanned f_X3_canBePlanned_33 f_X3_canBePlanned_34
    simp (disch := omega) only [gd_t, bd_s, nm_W, nm_I, I_add, I_sub, I_mul, I_neg, I_le_t, I_le_f, I_lt_t, I_lt_f, I_eq_t, I_eq_f, I_inb', I_ix', Int.toNat_natCast, decide_true, decide_false, Bool.not_false, Bool.not_true, if_true, if_false, wi_eq, wi_eq', wi_ne, wi_row, wi_2, N0, N1, N2, N3, N4, N5, N6, N7, N8, N9, N10, N11, N12, N13, N14, N15, N16, N17, N18, N19, N20, N21, N22, N23, N24, N25, N26, N27, N28, N29, N30, N31, N32, N33, N34, N35, N36, N37, N38, N39, N40, N41, N42, N43, N45, N48, N57, N59, N88, N89, N97, N99, N120, N121, N122, N179, N200, N255, N300, N400, N880, N900, N999, N1019, N50000000, N100000000, N1000000000, N2147483647, N2147483648, e1, isb_0]
  | true =>
    rw [c, bn_t] at e1
    rw [Bool.true_and]
    obtain ⟨c1, c2⟩ := Bool.and_eq_true_iff.mp c
    have q1 := of_decide_eq_true c1
    have q2 := (of_decide_eq_true c2).1
    obtain ⟨P, hP⟩ : ∃ P, P = pu pl V 0 := ⟨_, rfl⟩
    rw [← hP] at e2 pb ⊢
    have p7 := hpl.1
    obtain ⟨x, hx⟩ : ∃ x, x = pl u := ⟨_, rfl⟩
    rw [← hx] at p7 ⊢
    have xb : 0 ≤ x ∧ x ≤ 120 := by rw [hx]; exact hpl.2.2
    by_cases le : P - x + q ≤ W
    · rw [decide_eq_true le, bn_t]
      unfold f_X3_canBePlanned f_X3_canBePlanned_34
      clear hM
      simp (disch := omega) only [gd_t, bd_s, nm_W, nm_I, I_add, I_sub, I_mul, I_neg, I_le_t, I_le_f, I_lt_t, I_lt_f, I_eq_t, I_eq_f, I_inb', I_ix', Int.toNat_natCast, decide_true, decide_false, Bool.not_false, Bool.not_true, if_true, if_false, wi_eq, wi_eq', wi_ne, wi_row, wi_2, N0, N1, N2, N3, N4, N5, N6, N7, N8, N9, N10, N11, N12, N13, N14, N15, N16, N17, N18, N19, N20, N21, N22, N23, N24, N25, N26, N27, N28, N29, N30, N31, N32, N33, N34, N35, N36, N37, N38, N39, N40, N41, N42, N43, N45, N48, N57, N59, N88, N89, N97, N99, N120, N121, N122, N179, N200, N255, N300, N400, N880, N900, N999, N1019, N50000000, N100000000, N1000000000, N2147483647, N2147483648, e1, e2, p7, w0, isb_1]
    · rw [decide_eq_false le, bn_f]
      unfold f_X3_canBePlanned f_X3_canBePlanned_33 f_X3_canBePlanned_34
      clear hM
      simp (disch := omega) only [gd_t, bd_s, nm_W, nm_I, I_add, I_sub, I_mul, I_neg, I_le_t, I_le_f, I_lt_t, I_lt_f, I_eq_t, I_eq_f, I_inb', I_ix', Int.toNat_natCast, decide_true, decide_false, Bool.not_false, Bool.not_true, if_true, if_false, wi_eq, wi_eq', wi_ne, wi_row, wi_2, N0, N1, N2, N3, N4, N5, N6, N7, N8, N9, N10, N11, N12, N13, N14, N15, N16, N17, N18, N19, N20, N21, N22, N23, N24, N25, N26, N27, N28, N29, N30, N31, N32, N33, N34, N35, N36, N37, N38, N39, N40, N41, N42, N43, N45, N48, N57, N59, N88, N89, N97, N99, N120, N121, N122, N179, N200, N255, N300, N400, N880, N900, N999, N1019, N50000000, N100000000, N1000000000, N2147483647, N2147483648, e1, e2, p7, w0, isb_0]
theorem plan_1 {τ : Wd} {v q : Int} (e : f_X7_isVenue (I v) (wi τ 102 0 (I 0)) = some (I 0, wi τ 102 0 (I 0))) : f_X7_plan (I v) (I q) τ = some (I (-1), refW τ (I 1)) := by
  unfold f_X7_plan refW
  simp (disch := omega) only [gd_t, bd_s, nm_W, nm_I, I_add, I_sub, I_mul, I_neg, I_le_t, I_le_f, I_lt_t, I_lt_f, I_eq_t, I_eq_f, I_inb', I_ix', Int.toNat_natCast, decide_true, decide_false, Bool.not_false, Bool.not_true, if_true, if_false, wi_eq, wi_eq', wi_ne, wi_row, wi_2, N0, N1, N2, N3, N4, N5, N6, N7, N8, N9, N10, N11, N12, N13, N14, N15, N16, N17, N18, N19, N20, N21, N22, N23, N24, N25, N26, N27, N28, N29, N30, N31, N32, N33, N34, N35, N36, N37, N38, N39, N40, N41, N42, N43, N45, N48, N57, N59, N88, N89, N97, N99, N120, N121, N122, N179, N200, N255, N300, N400, N880, N900, N999, N1019, N50000000, N100000000, N1000000000, N2147483647, N2147483648, e, refR]
theorem plan_r {V u : Nat} {τ : Wd} {d : MD} {p W q y : Int} {pl : Nat → Int} (u5 : u < 5) (e : f_X7_isVenue (I (u : Int)) (wi τ 102 0 (I 0)) = some (I 1, wi τ 102 0 (I 0))) (e1 : f_X7_canHave (I (u : Int)) (I q) (wi τ 102 0 (I 0)) = some (I (bn (hv_ d p u q)), wi τ 102 0 (I 0))) (e2 : f_X7_planUnits (wi τ 102 0 (I 0)) = some (I (pu pl V 0), wi τ 102 0 (I 0))) (pb : 0 ≤ pu pl V 0 ∧ pu pl V 0 ≤ 600) (h43 : τ.1 112 (43 + u) = I (pl u)) (xb : 0 ≤ pl u ∧ pl u ≤ 120) (h35 : τ.1 112 35 = I W) (hW : 0 ≤ W ∧ W ≤ 120) (h36 : τ.1 112 36 = I y) (hy : 0 ≤ y ∧ y ≤ 1) (db : dep d p u ≤ 594) :
    f_X7_plan (I (u : Int)) (I q) τ = if pk d p W pl V u q = false then some (I (-1), refW τ (I 2)) else if y = 1 then some (I (-1), refW τ (I 5)) else some (I (pl u), wi (wi (wi (wi τ 102 0 (I 0)) 112 (43 + u) (I q)) 102 1 (I 0)) 102 2 (I (-1))) := by
  have w35 : Int.toNat 35 = 35 := rfl
  have w36 : Int.toNat 36 = 36 := rfl
  have t1 : ((43 : Int) + (u : Int)).toNat = 43 + u := by omega
  unfold pk
  cases c : hv_ d p u q with
  | false =>
    rw [Bool.false_and, if_pos rfl]
    rw [c, bn_f] at e1
    unfold f_X7_plan f_X7_plan_54 refW
    simp (disch := omega) only [gd_t, bd_s, nm_W, nm_I, I_add, I_sub, I_mul, I_neg, I_le_t, I_le_f, I_lt_t, I_lt_f, I_eq_t, I_eq_f, I_inb', I_ix', Int.toNat_natCast, decide_true, decide_false, Bool.not_false, Bool.not_true, if_true, if_false, wi_eq, wi_eq', wi_ne, wi_row, wi_2, N0, N1, N2, N3, N4, N5, N6, N7, N8, N9, N10, N11, N12, N13, N14, N15, N16, N17, N18, N19, N20, N21, N22, N23, N24, N25, N26, N27, N28, N29, N30, N31, N32, N33, N34, N35, N36, N37, N38, N39, N40, N41, N42, N43, N45, N48, N57, N59, N88, N89, N97, N99, N120, N121, N122, N179, N200, N255, N300, N400, N880, N900, N999, N1019, N50000000, N100000000, N1000000000, N2147483647, N2147483648, e, e1, refR]
  | true =>
    rw [c, bn_t] at e1
    rw [Bool.true_and]
    obtain ⟨q1, -, q2⟩ := of_decide_eq_true c
    obtain ⟨P, hP⟩ : ∃ P, P = pu pl V 0 := ⟨_, rfl⟩
    rw [← hP] at e2 pb ⊢
    obtain ⟨x, hx⟩ : ∃ x, x = pl u := ⟨_, rfl⟩
    rw [← hx] at h43 xb ⊢
    by_cases le : P - x + q ≤ W
    · rw [decide_eq_true le, if_neg (show ¬ true = false by decide)]
      by_cases cy : y = 1
      · rw [if_pos cy]
        unfold f_X7_plan refW
        simp (disch := omega) only [gd_t, bd_s, nm_W, nm_I, I_add, I_sub, I_mul, I_neg, I_le_t, I_le_f, I_lt_t, I_lt_f, I_eq_t, I_eq_f, I_inb', I_ix', Int.toNat_natCast, decide_true, decide_false, Bool.not_false, Bool.not_true, if_true, if_false, wi_eq, wi_eq', wi_ne, wi_row, wi_2, N0, N1, N2, N3, N4, N5, N6, N7, N8, N9, N10, N11, N12, N13, N14, N15, N16, N17, N18, N19, N20, N21, N22, N23, N24, N25, N26, N27, N28, N29, N30, N31, N32, N33, N34, N35, N36, N37, N38, N39, N40, N41, N42, N43, N45, N48, N57, N59, N88, N89, N97, N99, N120, N121, N122, N179, N200, N255, N300, N400, N880, N900, N999, N1019, N50000000, N100000000, N1000000000, N2147483647, N2147483648, e, e1, e2, t1, h43, w35, h35, w36, h36, refR]
      · rw [if_neg cy]
        unfold f_X7_plan
        simp (disch := omega) only [gd_t, bd_s, nm_W, nm_I, I_add, I_sub, I_mul, I_neg, I_le_t, I_le_f, I_lt_t, I_lt_f, I_eq_t, I_eq_f, I_inb', I_ix', Int.toNat_natCast, decide_true, decide_false, Bool.not_false, Bool.not_true, if_true, if_false, wi_eq, wi_eq', wi_ne, wi_row, wi_2, N0, N1, N2, N3, N4, N5, N6, N7, N8, N9, N10, N11, N12, N13, N14, N15, N16, N17, N18, N19, N20, N21, N22, N23, N24, N25, N26, N27, N28, N29, N30, N31, N32, N33, N34, N35, N36, N37, N38, N39, N40, N41, N42, N43, N45, N48, N57, N59, N88, N89, N97, N99, N120, N121, N122, N179, N200, N255, N300, N400, N880, N900, N999, N1019, N50000000, N100000000, N1000000000, N2147483647, N2147483648, e, e1, e2, t1, h43, w35, h35, w36, h36, goodR]
    · rw [decide_eq_false le, if_pos rfl]
      unfold f_X7_plan f_X7_plan_54 refW
      simp (disch := omega) only [gd_t, bd_s, nm_W, nm_I, I_add, I_sub, I_mul, I_neg, I_le_t, I_le_f, I_lt_t, I_lt_f, I_eq_t, I_eq_f, I_inb', I_ix', Int.toNat_natCast, decide_true, decide_false, Bool.not_false, Bool.not_true, if_true, if_false, wi_eq, wi_eq', wi_ne, wi_row, wi_2, N0, N1, N2, N3, N4, N5, N6, N7, N8, N9, N10, N11, N12, N13, N14, N15, N16, N17, N18, N19, N20, N21, N22, N23, N24, N25, N26, N27, N28, N29, N30, N31, N32, N33, N34, N35, N36, N37, N38, N39, N40, N41, N42, N43, N45, N48, N57, N59, N88, N89, N97, N99, N120, N121, N122, N179, N200, N255, N300, N400, N880, N900, N999, N1019, N50000000, N100000000, N1000000000, N2147483647, N2147483648, e, e1, e2, t1, h43, w35, h35, refR]
theorem c_plan {σ : Wd} {m : Nat} {v q a nn : Int} {b : Bool} (hm : σ.2.2 0 4 = m) (bm : bM m = true) (e1 : f_X6_isVenue (I v) σ = some (I a, σ)) (ha : 0 ≤ a ∧ a ≤ 1) (hn : 0 ≤ nn ∧ nn ≤ 1) (h0 : a = 0 → nn = 0) (h1 : a = 1 → f_X3_canBePlanned m (I v) (I q) σ = some (I nn, σ)) (h : σ.1 63 0 = I (bn b)) : f_X6_plan (I v) (I q) σ = f_X6_plan_46 (I v) (I q) (I a) (I nn) (I (bn (!b))) σ := by
  have key : f_X6_plan (I v) (I q) σ = f_X6_plan_31 (I v) (I q) (I a) (I nn) σ := by
    unfold f_X6_plan f_X6_plan_30
    by_cases c1 : a = 0
    · have s0 := h0 c1
      clear h
      simp (disch := omega) only [gd_t, bd_s, nm_W, nm_I, I_add, I_sub, I_mul, I_neg, I_le_t, I_le_f, I_lt_t, I_lt_f, I_eq_t, I_eq_f, I_inb', I_ix', Int.toNat_natCast, decide_true, decide_false, Bool.not_false, Bool.not_true, if_true, if_false, wi_eq, wi_eq', wi_ne, wi_row, wi_2, N0, N1, N2, N3, N4, N5, N6, N7, N8, N9, N10, N11, N12, N13, N14, N15, N16, N17, N18, N19, N20, N21, N22, N23, N24, N25, N26, N27, N28, N29, N30, N31, N32, N33, N34, N35, N36, N37, N38, N39, N40, N41, N42, N43, N45, N48, N57, N59, N88, N89, N97, N99, N120, N121, N122, N179, N200, N255, N300, N400, N880, N900, N999, N1019, N50000000, N100000000, N1000000000, N2147483647, N2147483648, e1]
      rw [s0]
    · have e2 := h1 (by omega)
      clear h
      by_cases c2 : nn = 0
      · simp (disch := omega) only [gd_t, bd_s, nm_W, nm_I, I_add, I_sub, I_mul, I_neg, I_le_t, I_le_f, I_lt_t, I_lt_f, I_eq_t, I_eq_f, I_inb', I_ix', Int.toNat_natCast, decide_true, decide_false, Bool.not_false, Bool.not_true, if_true, if_false, wi_eq, wi_eq', wi_ne, wi_row, wi_2, N0, N1, N2, N3, N4, N5, N6, N7, N8, N9, N10, N11, N12, N13, N14, N15, N16, N17, N18, N19, N20, N21, N22, N23, N24, N25, N26, N27, N28, N29, N30, N31, N32, N33, N34, N35, N36, N37, N38, N39, N40, N41, N42, N43, N45, N48, N57, N59, N88, N89, N97, N99, N120, N121, N122, N179, N200, N255, N300, N400, N880, N900, N999, N1019, N50000000, N100000000, N1000000000, N2147483647, N2147483648, e1, hm, bm, e2]
        rw [c2]
      · simp (disch := omega) only [gd_t, bd_s, nm_W, nm_I, I_add, I_sub, I_mul, I_neg, I_le_t, I_le_f, I_lt_t, I_lt_f, I_eq_t, I_eq_f, I_inb', I_ix', Int.toNat_natCast, decide_true, decide_false, Bool.not_false, Bool.not_true, if_true, if_false, wi_eq, wi_eq', wi_ne, wi_row, wi_2, N0, N1, N2, N3, N4, N5, N6, N7, N8, N9, N10, N11, N12, N13, N14, N15, N16, N17, N18, N19, N20, N21, N22, N23, N24, N25, N26, N27, N28, N29, N30, N31, N32, N33, N34, N35, N36, N37, N38, N39, N40, N41, N42, N43, N45, N48, N57, N59, N88, N89, N97, N99, N120, N121, N122, N179, N200, N255, N300, N400, N880, N900, N999, N1019, N50000000, N100000000, N1000000000, N2147483647, N2147483648, e1, hm, bm, e2]
        rw [show nn = 1 by omega]
  rw [key]
  unfold f_X6_plan_31
  cases b with
  | false =>
    have h : σ.1 63 0 = (0 : Int32) := h
    rw [if_pos h]
    rfl
  | true =>
    have h : ¬ σ.1 63 0 = (0 : Int32) := by rw [h]; decide
    rw [if_neg h]
    rfl
set_option maxHeartbeats 1000000 in
theorem m_plan (x y : Int32) : MT (f_X6_plan x y) (f_X7_plan x y) := by
  intro σ τ B ⟨m, V, E, pres, kp, d, p, L, W, dl, pl, et, b, t, s, rd, h, n, g, hG⟩ hB
  obtain ⟨v, rfl, hv⟩ := argI x
  obtain ⟨q, rfl, hq⟩ := argI y
  obtain ⟨bm, m10, m63⟩ := bMm hG.1
  have m24 : m = 11 ∨ m = 24 := by have := hG.1; omega
  have hQ := hG.2.2.1.1
  have hM0 := hQ.1
  have h5 := hM0.1.1
  have g21 : (wi τ 102 0 (I 0)).1 102 21 = I (bn pres) := by rw [wi_ne (by decide)]; exact hG.2.2.2.1.2.1
  have g14 : (wi τ 102 0 (I 0)).1 102 14 = I (V : Int) := by rw [wi_ne (by decide)]; exact hM0.2.2.1.1
  have c0 := cIsV (σ := σ) hv hG.2.1 bm hM0.2.1.1 h5
  have pb := pu_bnd (QM_pb hM0) V 0 (by omega)
  obtain ⟨nn, hn, hn0, hn1⟩ : ∃ nn : Int, (0 ≤ nn ∧ nn ≤ 1) ∧ (¬ (0 ≤ v ∧ v < (V : Int)) → nn = 0) ∧ (∀ u : Nat, v = (u : Int) → u < V → nn = bn (pk d p W pl V u q)) := by
    by_cases y : 0 ≤ v ∧ v < (V : Int)
    · obtain ⟨u, rfl⟩ := Int.eq_ofNat_of_zero_le y.1
      exact ⟨bn (pk d p W pl V u q), bn_bnd _, fun q => absurd y q, fun u' h1 _ => by rw [show u' = u by omega]⟩
    · exact ⟨0, by omega, fun _ => rfl, fun u h1 h2 => absurd ⟨by omega, by omega⟩ y⟩
  have c1 := c_plan (q := q) hG.2.1 bm c0 (bn_bnd _) hn (fun z => hn0 (bn_0 z)) (fun z => by
    have y := bn_1 z
    obtain ⟨u, rfl⟩ := Int.eq_ofNat_of_zero_le y.1
    rw [hn1 u rfl (by omega)]
    exact c_cbp hM0 (by omega) hq) hQ.2.2.1.1.1
  have er : pres = true → 0 ≤ v ∧ v < (V : Int) → ∃ u : Nat, v = (u : Int) ∧ u < V ∧ f_X7_plan (I v) (I q) τ = if pk d p W pl V u q = false then some (I (-1), refW τ (I 2)) else if bn b = 1 then some (I (-1), refW τ (I 5)) else some (I (pl u), wi (wi (wi (wi τ 102 0 (I 0)) 112 (43 + u) (I q)) 102 1 (I 0)) 102 2 (I (-1))) := fun hp y => by
    have ev := rIsV1 (τ := wi τ 102 0 (I 0)) (x := bn pres) hv g21 (by rw [hp]; rfl) g14 h5 y.1 y.2
    obtain ⟨u, rfl⟩ := Int.eq_ofNat_of_zero_le y.1
    have hu : u < V := by omega
    have M2 := QM_wi m10 hM0 (I 0)
    have hpl := hM0.2.2.2.2.2.2.2 u hu
    exact ⟨u, rfl, hu, plan_r (by omega) ev (rHad (z := q) M2.2.2.1 M2.1 hu (QM_p M2) M2.2.2.2.1.2.1 hq) (rPU M2.2.2.1.1 h5 (fun v hv => (M2.2.2.2.2.2.2.2 v hv).2.1)) ⟨pb.1, by omega⟩ hpl.2.1 hpl.2.2 hM0.2.2.2.2.2.1.2.1 hM0.2.2.2.2.2.1.2.2 hQ.2.2.1.1.2 (bn_bnd b) (dep_bnd hM0.1 hu).2⟩
  obtain ⟨x, σ', τ', k1, k2, k3⟩ := act_ok (B' := B + 200) (a := bn (decide (0 ≤ v ∧ v < (V : Int)))) (nn := nn) (ss := bn (!b)) (low := I (-1)) (K := fun σ2 => gd (bM (σ2.2.2 0 4)) (gd (inb (I v) 5) (gd (bM (σ2.2.2 0 4)) (gd (inb (I v) 5) (nmW (wi σ2 ((σ2.2.2 0 4) + 7) (ix (I v)) (I q)) fun σ5 => some (σ2.1 ((σ2.2.2 0 4) + 7) (ix (I v)), σ5)))))) (fr := f_X7_plan (I v) (I q))
    hG (by omega) (bn_bnd _) hn (bn_bnd _)
    (fun hc => by
      rcases tc_cases (pres := pres) (a := bn (decide (0 ≤ v ∧ v < (V : Int)))) (n := nn) (s := bn (!b)) with ⟨q1, q2⟩ | ⟨q1, q2, q3⟩ | ⟨q1, q2, q3, q4⟩ | ⟨q1, q2, q3, q4, q5⟩ | ⟨-, -, -, -, q2⟩
      · rw [q2]; exact plan_1 (rIsV0 hv g21 (bn_bnd _) g14 h5 (Or.inl (by rw [q1]; rfl)))
      · rw [q3]; exact plan_1 (rIsV0 hv g21 (bn_bnd _) g14 h5 (Or.inr (bn_0 q2)))
      · obtain ⟨u, e1, e2, e⟩ := er q1 (bn_n0 q2)
        have pz : pk d p W pl V u q = false := by
          have := hn1 u e1 e2
          rw [q3] at this
          cases h : pk d p W pl V u q with
          | false => rfl
          | true => rw [h] at this; cases this
        rw [q4, e, if_pos pz]; rfl
      · obtain ⟨u, e1, e2, e⟩ := er q1 (bn_n0 q2)
        have pz : ¬ pk d p W pl V u q = false := fun z => by
          have := hn1 u e1 e2
          rw [z] at this
          exact q3 this
        rw [q5, e, if_neg pz, if_pos (by cases b with
          | true => rfl
          | false => cases q4)]; rfl
      · exact absurd q2 hc)
    (fun hp ha hnn hs => by
      obtain ⟨u, rfl, hu, e⟩ := er hp (bn_1 ha)
      have bf : b = false := by
        cases e : b with
        | true => rw [e] at hs; cases hs
        | false => rfl
      subst bf
      have pz : pk d p W pl V u q = true := by
        have := hn1 u rfl hu
        rw [hnn] at this
        cases h : pk d p W pl V u q with
        | true => rfl
        | false => rw [h] at this; cases this
      rw [if_neg (by rw [pz]; decide), if_neg (by decide)] at e
      have qb : 0 ≤ q ∧ q ≤ 120 := by
        have z := pk_120 (d := d) (p := p) (q := q) (QM_pb hM0) hu hM0.2.2.2.2.2.1.2.2.2
        rw [pz] at z
        obtain ⟨z1, -⟩ := Bool.and_eq_true_iff.mp z
        obtain ⟨z3, z4⟩ := Bool.and_eq_true_iff.mp z1
        exact ⟨(of_decide_eq_true z4).1, of_decide_eq_true z3⟩
      obtain ⟨hM, hE, hR, hN, hP, hL, hnp, hrd, hb, hz⟩ := hQ
      obtain ⟨τ', hτ'⟩ : ∃ x, x = wi (wi (wi (wi τ 102 0 (I 0)) 112 (43 + u) (I q)) 102 1 (I 0)) 102 2 (I (-1)) := ⟨_, rfl⟩
      obtain ⟨σ', hσ'⟩ : ∃ x, x = wi (wi σ 0 12 (I 0)) (m + 7) u (I q) := ⟨_, rfl⟩
      have fc : ∀ k, k ≠ 0 → k ≠ m + 7 → σ'.1 k = σ.1 k := fun k g1 g2 => by rw [hσ', wi_row g2, wi_row g1]
      have fk : ∀ k, k ≠ 102 → k ≠ 112 → τ'.1 k = τ.1 k := fun k g1 g2 => by rw [hτ', wi_row g1, wi_row g1, wi_row g2, wi_row g1]
      have f2 : ∀ i, 3 ≤ i → τ'.1 102 i = τ.1 102 i := fun i g1 => by rw [hτ', wi_ne (by omega), wi_ne (by omega), wi_row (by decide), wi_ne (by omega)]
      have fx : ∀ i, i ≠ 43 + u → τ'.1 112 i = τ.1 112 i := fun i g1 => by rw [hτ', wi_row (by decide), wi_row (by decide), wi_ne g1, wi_row (by decide)]
      have QQ' : QQ m 63 σ' τ' V E d p L W dl (fun j => if j = u then q else pl j) et false t s rd h n g := by
        refine ⟨QM_pl hM (fun k g1 g2 g3 => fc k (by omega) g3) (fun w hw => ?_) (fun i g1 g2 => f2 i (by omega)) (fk 103 (by decide) (by decide)) (fk 104 (by decide) (by decide)) (fun i hi => fx i (by omega)) (fun w hw => ?_) (fun w hw => ?_), QE_congr hE (by rw [fc m (by omega) (by omega)]) (fc _ (by omega) (by omega)) (fc _ (by omega) (by omega)) (fc _ (by omega) (by omega)) (f2 15 (by decide)) (fk 105 (by decide) (by decide)),
          QR_rows hR (fun i _ => by rw [fc 63 (by decide) (by omega)]) (fun i _ _ => fx i (by omega)) (by rw [fc 63 (by decide) (by omega), fx 42 (by omega)]; exact hR.2.2.2.2.2.2), ?_, fun w hw => QP_congr (hP w hw) (fun k g1 g2 => by rw [fc k (by omega) (by omega)]) (fun i g1 g2 => fx i (by omega)) (fk 103 (by decide) (by decide)), LR_congr hL rfl rfl (fun k g1 g2 => fc k (by omega) (by omega)) (fun i hi => fx i (by omega)), hnp, by rw [fc 63 (by decide) (by omega)]; exact hrd, hb, hz⟩
        · show _ = I (if w = u then q else pl w)
          by_cases z : w = u
          · rw [if_pos z, z, hσ', wi_eq]
          · rw [if_neg z, hσ', wi_ne z, wi_row (by omega)]; exact (hM.2.2.2.2.2.2.2 w hw).1
        · show _ = I (if w = u then q else pl w)
          by_cases z : w = u
          · rw [if_pos z, z, hτ', wi_row (by decide), wi_row (by decide), wi_eq]
          · rw [if_neg z, fx _ (by omega)]; exact (hM.2.2.2.2.2.2.2 w hw).2.1
        · show 0 ≤ (if w = u then q else pl w) ∧ (if w = u then q else pl w) ≤ 120
          by_cases z : w = u
          · rw [if_pos z]; exact qb
          · rw [if_neg z]; exact (hM.2.2.2.2.2.2.2 w hw).2.2
        · obtain ⟨np, n1, n2⟩ := hN
          exact ⟨np, by rw [fc 63 (by decide) (by omega)]; exact n1, n2⟩
      have tB := hG.2.2.1.2
      refine ⟨I (pl u), σ', τ', ?_, by rw [e, hτ'], ⟨m, V, E, pres, kp, d, p, L, W, dl, _, et, false, t, s, rd, h, n, g, GA_act hG hp (by omega) QQ' (by omega) (fun k hk => fc k (by omega) (by omega)) (fun i hi => by rw [hσ', wi_row (by omega), wi_ne hi]) (by rw [hσ', wi_2, wi_2]) (fun k g1 g2 g3 => fk k (by omega) g3) (fun i g1 _ => f2 i g1) (by rw [hσ', wi_row (by omega), wi_eq]) (by rw [hτ', wi_ne (by decide), wi_eq]) (by rw [hτ', wi_eq])⟩, ⟨fun k hk => by rw [hσ', wi_row (by omega)], by rw [hσ', wi_2]⟩, ⟨fun k hk => fk k (by omega) (by omega), by rw [hτ', wi_2, wi_2, wi_2, wi_2]⟩⟩
      have hm : (wi σ 0 12 (I 0)).2.2 0 4 = m := hG.2.1
      have i1 : inb (I (u : Int)) 5 = true := inI (by omega) (by decide)
      have i2 : ix (I (u : Int)) = u := ixI (by omega)
      show gd (bM ((wi σ 0 12 (I 0)).2.2 0 4)) (gd (inb (I (u : Int)) 5) (gd (bM ((wi σ 0 12 (I 0)).2.2 0 4)) (gd (inb (I (u : Int)) 5) (nmW (wi (wi σ 0 12 (I 0)) (((wi σ 0 12 (I 0)).2.2 0 4) + 7) (ix (I (u : Int))) (I q)) fun σ5 => some ((wi σ 0 12 (I 0)).1 (((wi σ 0 12 (I 0)).2.2 0 4) + 7) (ix (I (u : Int))), σ5))))) = _
      rw [hm, bm, i1, gd_t, gd_t, gd_t, gd_t, nm_W, i2, wi_row (show m + 7 ≠ 0 by omega), (hM.2.2.2.2.2.2.2 u hu).1, hσ'])
  refine ⟨x, σ', τ', ?_, k2, k3⟩
  rw [c1]
  exact k1
