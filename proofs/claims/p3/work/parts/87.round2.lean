/-! PURE: a round begins, whole -/
theorem ps_pu {d : MD} {p w : Int} {pl : Nat → Int} {V : Nat} : ∀ (r v : Nat), ps d p w pl V r v = true → pu pl V 0 ≤ w
  | 0, _, h => of_decide_eq_true h
  | r + 1, v, h => by
    unfold ps at h
    split at h
    · exact ps_pu r (v + 1) h
    · cases h
theorem r_pl {V : Nat} {pl : Nat → Int} (hV : V ≤ 5) : ∀ (r v n : Nat) (z : Int) (τ : Wd), z = (v : Int) → v + r = V → r < n → τ.1 102 14 = I (V : Int) → (∀ w, w < V → τ.1 112 (43 + w) = I (pl w)) → (∀ w, w < v → τ.1 117 w = I (pl w)) →
    ∃ τ', f_X7_beginsRound_68 n (I z) τ = f_X7_beginsRound_97 τ' ∧ (∀ w, w < V → τ'.1 117 w = I (pl w)) ∧ (∀ k, k ≠ 117 → τ'.1 k = τ.1 k) ∧ τ'.2 = τ.2
  | 0, v, n + 1, z, τ, hz, hv, _, h, hp, hw => by
    refine ⟨τ, ?_, fun w h1 => hw w (by omega), fun _ _ => rfl, rfl⟩
    rw [f_X7_beginsRound_68]
    simp (disch := omega) only [gd_t, bd_s, nm_W, nm_I, I_add, I_sub, I_mul, I_neg, I_le_t, I_le_f, I_lt_t, I_lt_f, I_eq_t, I_eq_f, I_inb', I_ix', Int.toNat_natCast, decide_true, decide_false, Bool.not_false, Bool.not_true, if_true, if_false, wi_eq, wi_eq', wi_ne, wi_row, wi_2, N0, N1, N2, N3, N4, N5, N6, N7, N8, N9, N10, N11, N12, N13, N14, N15, N16, N17, N18, N19, N20, N21, N22, N23, N24, N25, N26, N27, N28, N29, N30, N31, N32, N33, N34, N35, N36, N37, N38, N39, N40, N41, N42, N43, N45, N48, N57, N59, N88, N89, N97, N99, N120, N121, N122, N179, N200, N255, N300, N400, N880, N900, N999, N1019, N50000000, N100000000, N1000000000, N2147483647, N2147483648, h]
  | r + 1, v, n + 1, z, τ, hz, hv, hn, h, hp, hw => by
    subst hz
    have t1 : ((43 : Int) + (v : Int)).toNat = 43 + v := by omega
    obtain ⟨τ', q1, q2, q3, q4⟩ := r_pl hV r (v + 1) n ((v : Int) + 1) (wi τ 117 v (I (pl v))) (by omega) (by omega) (by omega) (by rw [wi_row (by decide)]; exact h) (fun w h1 => by rw [wi_row (by decide)]; exact hp w h1)
      (fun w h1 => by
        by_cases c : w = v
        · subst c; rw [wi_eq]
        · rw [wi_ne c]; exact hw w (by omega))
    refine ⟨τ', ?_, q2, fun k hk => by rw [q3 k hk, wi_row hk], by rw [q4, wi_2]⟩
    rw [← q1, f_X7_beginsRound_68]
    simp (disch := omega) only [gd_t, bd_s, nm_W, nm_I, I_add, I_sub, I_mul, I_neg, I_le_t, I_le_f, I_lt_t, I_lt_f, I_eq_t, I_eq_f, I_inb', I_ix', Int.toNat_natCast, decide_true, decide_false, Bool.not_false, Bool.not_true, if_true, if_false, wi_eq, wi_eq', wi_ne, wi_row, wi_2, N0, N1, N2, N3, N4, N5, N6, N7, N8, N9, N10, N11, N12, N13, N14, N15, N16, N17, N18, N19, N20, N21, N22, N23, N24, N25, N26, N27, N28, N29, N30, N31, N32, N33, N34, N35, N36, N37, N38, N39, N40, N41, N42, N43, N45, N48, N57, N59, N88, N89, N97, N99, N120, N121, N122, N179, N200, N255, N300, N400, N880, N900, N999, N1019, N50000000, N100000000, N1000000000, N2147483647, N2147483648, h, t1, hp v (by omega)]
/-! the choice of the class, by cases -/
theorem sr_no {m r V : Nat} {σ : Wd} {s : Int} {x : Bool} (hV : V ≤ 5) (e1 : f_X4_nothingUnderWay r m σ = some (I (bn x), σ)) (hx : x = false ∨ s = 0) (r2 : σ.1 r 2 = I s) : f_X4_startRound r m σ = some (I 0, σ) := by
  unfold f_X4_startRound
  rcases hx with hx | hx
  · rw [hx] at e1
    simp (disch := omega) only [gd_t, bd_s, nm_W, nm_I, I_add, I_sub, I_mul, I_neg, I_le_t, I_le_f, I_lt_t, I_lt_f, I_eq_t, I_eq_f, I_inb', I_ix', Int.toNat_natCast, decide_true, decide_false, Bool.not_false, Bool.not_true, if_true, if_false, wi_eq, wi_eq', wi_ne, wi_row, wi_2, N0, N1, N2, N3, N4, N5, N6, N7, N8, N9, N10, N11, N12, N13, N14, N15, N16, N17, N18, N19, N20, N21, N22, N23, N24, N25, N26, N27, N28, N29, N30, N31, N32, N33, N34, N35, N36, N37, N38, N39, N40, N41, N42, N43, N45, N48, N57, N59, N88, N89, N97, N99, N120, N121, N122, N179, N200, N255, N300, N400, N880, N900, N999, N1019, N50000000, N100000000, N1000000000, N2147483647, N2147483648, e1, bn_f, f_X4_startRound_26]
  · cases x with
    | false => simp (disch := omega) only [gd_t, bd_s, nm_W, nm_I, I_add, I_sub, I_mul, I_neg, I_le_t, I_le_f, I_lt_t, I_lt_f, I_eq_t, I_eq_f, I_inb', I_ix', Int.toNat_natCast, decide_true, decide_false, Bool.not_false, Bool.not_true, if_true, if_false, wi_eq, wi_eq', wi_ne, wi_row, wi_2, N0, N1, N2, N3, N4, N5, N6, N7, N8, N9, N10, N11, N12, N13, N14, N15, N16, N17, N18, N19, N20, N21, N22, N23, N24, N25, N26, N27, N28, N29, N30, N31, N32, N33, N34, N35, N36, N37, N38, N39, N40, N41, N42, N43, N45, N48, N57, N59, N88, N89, N97, N99, N120, N121, N122, N179, N200, N255, N300, N400, N880, N900, N999, N1019, N50000000, N100000000, N1000000000, N2147483647, N2147483648, e1, bn_f, f_X4_startRound_26]
    | true => simp (disch := omega) only [gd_t, bd_s, nm_W, nm_I, I_add, I_sub, I_mul, I_neg, I_le_t, I_le_f, I_lt_t, I_lt_f, I_eq_t, I_eq_f, I_inb', I_ix', Int.toNat_natCast, decide_true, decide_false, Bool.not_false, Bool.not_true, if_true, if_false, wi_eq, wi_eq', wi_ne, wi_row, wi_2, N0, N1, N2, N3, N4, N5, N6, N7, N8, N9, N10, N11, N12, N13, N14, N15, N16, N17, N18, N19, N20, N21, N22, N23, N24, N25, N26, N27, N28, N29, N30, N31, N32, N33, N34, N35, N36, N37, N38, N39, N40, N41, N42, N43, N45, N48, N57, N59, N88, N89, N97, N99, N120, N121, N122, N179, N200, N255, N300, N400, N880, N900, N999, N1019, N50000000, N100000000, N1000000000, N2147483647, N2147483648, e1, bn_t, r2, f_X4_startRound_26]
theorem sr_nolot {m r : Nat} {σ : Wd} {s : Int} (e1 : f_X4_nothingUnderWay r m σ = some (I 1, σ)) (r2 : σ.1 r 2 = I s) (s0 : 0 < s) (s1 : s ≤ 120) (e2 : f_X3_hasLotWithin m (I s) σ = some (I 0, σ)) : f_X4_startRound r m σ = some (I 0, σ) := by
  unfold f_X4_startRound
  simp (disch := omega) only [gd_t, bd_s, nm_W, nm_I, I_add, I_sub, I_mul, I_neg, I_le_t, I_le_f, I_lt_t, I_lt_f, I_eq_t, I_eq_f, I_inb', I_ix', Int.toNat_natCast, decide_true, decide_false, Bool.not_false, Bool.not_true, if_true, if_false, wi_eq, wi_eq', wi_ne, wi_row, wi_2, N0, N1, N2, N3, N4, N5, N6, N7, N8, N9, N10, N11, N12, N13, N14, N15, N16, N17, N18, N19, N20, N21, N22, N23, N24, N25, N26, N27, N28, N29, N30, N31, N32, N33, N34, N35, N36, N37, N38, N39, N40, N41, N42, N43, N45, N48, N57, N59, N88, N89, N97, N99, N120, N121, N122, N179, N200, N255, N300, N400, N880, N900, N999, N1019, N50000000, N100000000, N1000000000, N2147483647, N2147483648, e1, r2, e2, f_X4_startRound_26]
theorem sr_go1 {m r : Nat} {σ : Wd} {s P rd : Int} {b : Bool} (hrd : rd = 0) (e1 : f_X4_nothingUnderWay r m σ = some (I 1, σ)) (r2 : σ.1 r 2 = I s) (s0 : 0 < s) (s1 : s ≤ 120) (e2 : f_X3_hasLotWithin m (I s) σ = some (I 1, σ)) (r6 : σ.1 r 6 = I rd) (e3 : f_X3_planUnits m σ = some (I P, σ)) (P0 : 0 < P) (P1 : P ≤ 1000) (e4 : f_X3_planStands m σ = some (I (bn b), σ)) :
    f_X4_startRound r m σ = f_X4_startRound_54 r m (I (bn b)) σ := by
  obtain ⟨x, hx⟩ : ∃ x, x = bn b := ⟨_, rfl⟩
  have xb := bn_bnd b
  rw [← hx] at e4 xb ⊢
  unfold f_X4_startRound
  by_cases c : x = 0
  · simp (disch := omega) only [gd_t, bd_s, nm_W, nm_I, I_add, I_sub, I_mul, I_neg, I_le_t, I_le_f, I_lt_t, I_lt_f, I_eq_t, I_eq_f, I_inb', I_ix', Int.toNat_natCast, decide_true, decide_false, Bool.not_false, Bool.not_true, if_true, if_false, wi_eq, wi_eq', wi_ne, wi_row, wi_2, N0, N1, N2, N3, N4, N5, N6, N7, N8, N9, N10, N11, N12, N13, N14, N15, N16, N17, N18, N19, N20, N21, N22, N23, N24, N25, N26, N27, N28, N29, N30, N31, N32, N33, N34, N35, N36, N37, N38, N39, N40, N41, N42, N43, N45, N48, N57, N59, N88, N89, N97, N99, N120, N121, N122, N179, N200, N255, N300, N400, N880, N900, N999, N1019, N50000000, N100000000, N1000000000, N2147483647, N2147483648, e1, r2, e2, r6, e3, e4, f_X4_startRound_53]
    rw [c]
  · simp (disch := omega) only [gd_t, bd_s, nm_W, nm_I, I_add, I_sub, I_mul, I_neg, I_le_t, I_le_f, I_lt_t, I_lt_f, I_eq_t, I_eq_f, I_inb', I_ix', Int.toNat_natCast, decide_true, decide_false, Bool.not_false, Bool.not_true, if_true, if_false, wi_eq, wi_eq', wi_ne, wi_row, wi_2, N0, N1, N2, N3, N4, N5, N6, N7, N8, N9, N10, N11, N12, N13, N14, N15, N16, N17, N18, N19, N20, N21, N22, N23, N24, N25, N26, N27, N28, N29, N30, N31, N32, N33, N34, N35, N36, N37, N38, N39, N40, N41, N42, N43, N45, N48, N57, N59, N88, N89, N97, N99, N120, N121, N122, N179, N200, N255, N300, N400, N880, N900, N999, N1019, N50000000, N100000000, N1000000000, N2147483647, N2147483648, e1, r2, e2, r6, e3, e4]
    rw [show x = 1 from by omega]
theorem sr_go2 {m r : Nat} {σ : Wd} {s rd P : Int} (e1 : f_X4_nothingUnderWay r m σ = some (I 1, σ)) (r2 : σ.1 r 2 = I s) (s0 : 0 < s) (s1 : s ≤ 120) (e2 : f_X3_hasLotWithin m (I s) σ = some (I 1, σ)) (r6 : σ.1 r 6 = I rd) (rd0 : 0 ≤ rd) (rd1 : rd ≤ 2000000) (e3 : f_X3_planUnits m σ = some (I P, σ)) (P0 : 0 ≤ P) (hh : ¬ rd = 0 ∨ P = 0) :
    f_X4_startRound r m σ = f_X4_startRound_54 r m (I 0) σ := by
  unfold f_X4_startRound
  by_cases c1 : rd = 0
  · have c2 : P = 0 := by omega
    simp (disch := omega) only [gd_t, bd_s, nm_W, nm_I, I_add, I_sub, I_mul, I_neg, I_le_t, I_le_f, I_lt_t, I_lt_f, I_eq_t, I_eq_f, I_inb', I_ix', Int.toNat_natCast, decide_true, decide_false, Bool.not_false, Bool.not_true, if_true, if_false, wi_eq, wi_eq', wi_ne, wi_row, wi_2, N0, N1, N2, N3, N4, N5, N6, N7, N8, N9, N10, N11, N12, N13, N14, N15, N16, N17, N18, N19, N20, N21, N22, N23, N24, N25, N26, N27, N28, N29, N30, N31, N32, N33, N34, N35, N36, N37, N38, N39, N40, N41, N42, N43, N45, N48, N57, N59, N88, N89, N97, N99, N120, N121, N122, N179, N200, N255, N300, N400, N880, N900, N999, N1019, N50000000, N100000000, N1000000000, N2147483647, N2147483648, e1, r2, e2, r6, e3, f_X4_startRound_53]
  · simp (disch := omega) only [gd_t, bd_s, nm_W, nm_I, I_add, I_sub, I_mul, I_neg, I_le_t, I_le_f, I_lt_t, I_lt_f, I_eq_t, I_eq_f, I_inb', I_ix', Int.toNat_natCast, decide_true, decide_false, Bool.not_false, Bool.not_true, if_true, if_false, wi_eq, wi_eq', wi_ne, wi_row, wi_2, N0, N1, N2, N3, N4, N5, N6, N7, N8, N9, N10, N11, N12, N13, N14, N15, N16, N17, N18, N19, N20, N21, N22, N23, N24, N25, N26, N27, N28, N29, N30, N31, N32, N33, N34, N35, N36, N37, N38, N39, N40, N41, N42, N43, N45, N48, N57, N59, N88, N89, N97, N99, N120, N121, N122, N179, N200, N255, N300, N400, N880, N900, N999, N1019, N50000000, N100000000, N1000000000, N2147483647, N2147483648, e1, r2, e2, r6, f_X4_startRound_53]
theorem sr_go {m r : Nat} {σ : Wd} {s rd P : Int} {b : Bool} (e1 : f_X4_nothingUnderWay r m σ = some (I 1, σ)) (r2 : σ.1 r 2 = I s) (s0 : 0 < s) (s1 : s ≤ 120) (e2 : f_X3_hasLotWithin m (I s) σ = some (I 1, σ)) (r6 : σ.1 r 6 = I rd) (rd0 : 0 ≤ rd) (rd1 : rd ≤ 2000000) (e3 : f_X3_planUnits m σ = some (I P, σ)) (P0 : 0 ≤ P) (P1 : P ≤ 1000) (e4 : f_X3_planStands m σ = some (I (bn b), σ)) :
    f_X4_startRound r m σ = f_X4_startRound_54 r m (I (bn (decide (rd = 0 ∧ 0 < P) && b))) σ := by
  by_cases c : rd = 0 ∧ 0 < P
  · rw [decide_eq_true c, Bool.true_and]
    exact sr_go1 c.1 e1 r2 s0 s1 e2 r6 e3 c.2 P1 e4
  · rw [decide_eq_false c, Bool.false_and, bn_f]
    exact sr_go2 e1 r2 s0 s1 e2 r6 rd0 rd1 e3 P0 (by omega)
theorem sr_54 {m r : Nat} {σ σ1 : Wd} {s rd : Int} {bp : Bool} (r2 : σ.1 r 2 = I s) (r6 : σ1.1 r 6 = I rd) (e : bp = false → f_X1_choose m (I s) (I (-1)) σ = some (0, σ1)) (e2 : bp = true → σ1 = σ) :
    f_X4_startRound_54 r m (I (bn bp)) σ = f_X4_startRound_85 r m FU (I (bn bp)) (I 0) (I 0) (wi σ1 r 6 (I (rd + 1))) := by
  unfold f_X4_startRound_54 f_X4_startRound_69
  cases bp with
  | false =>
    have e := e rfl
    simp (disch := omega) only [gd_t, bd_s, nm_W, nm_I, I_add, I_sub, I_mul, I_neg, I_le_t, I_le_f, I_lt_t, I_lt_f, I_eq_t, I_eq_f, I_inb', I_ix', Int.toNat_natCast, decide_true, decide_false, Bool.not_false, Bool.not_true, if_true, if_false, wi_eq, wi_eq', wi_ne, wi_row, wi_2, N0, N1, N2, N3, N4, N5, N6, N7, N8, N9, N10, N11, N12, N13, N14, N15, N16, N17, N18, N19, N20, N21, N22, N23, N24, N25, N26, N27, N28, N29, N30, N31, N32, N33, N34, N35, N36, N37, N38, N39, N40, N41, N42, N43, N45, N48, N57, N59, N88, N89, N97, N99, N120, N121, N122, N179, N200, N255, N300, N400, N880, N900, N999, N1019, N50000000, N100000000, N1000000000, N2147483647, N2147483648, bn_f, r2, e, r6]
  | true =>
    have e2 := e2 rfl
    subst e2
    simp (disch := omega) only [gd_t, bd_s, nm_W, nm_I, I_add, I_sub, I_mul, I_neg, I_le_t, I_le_f, I_lt_t, I_lt_f, I_eq_t, I_eq_f, I_inb', I_ix', Int.toNat_natCast, decide_true, decide_false, Bool.not_false, Bool.not_true, if_true, if_false, wi_eq, wi_eq', wi_ne, wi_row, wi_2, N0, N1, N2, N3, N4, N5, N6, N7, N8, N9, N10, N11, N12, N13, N14, N15, N16, N17, N18, N19, N20, N21, N22, N23, N24, N25, N26, N27, N28, N29, N30, N31, N32, N33, N34, N35, N36, N37, N38, N39, N40, N41, N42, N43, N45, N48, N57, N59, N88, N89, N97, N99, N120, N121, N122, N179, N200, N255, N300, N400, N880, N900, N999, N1019, N50000000, N100000000, N1000000000, N2147483647, N2147483648, bn_t, r6]
/-! and of the reference -/
theorem br_no {τ : Wd} {s : Int} {x : Bool} (e1 : f_X7_isUnderWay τ = some (I (bn (!x)), τ)) (hx : x = false ∨ s = 0) (r2 : τ.1 112 38 = I s) : f_X7_beginsRound τ = some (I 0, τ) := by
  have w38 : Int.toNat 38 = 38 := rfl
  unfold f_X7_beginsRound
  rcases hx with hx | hx
  · rw [hx, Bool.not_false] at e1
    simp (disch := omega) only [gd_t, bd_s, nm_W, nm_I, I_add, I_sub, I_mul, I_neg, I_le_t, I_le_f, I_lt_t, I_lt_f, I_eq_t, I_eq_f, I_inb', I_ix', Int.toNat_natCast, decide_true, decide_false, Bool.not_true, if_true, if_false, wi_eq, wi_eq', wi_ne, wi_row, wi_2, N0, N1, N2, N3, N4, N5, N6, N7, N8, N9, N10, N11, N12, N13, N14, N15, N16, N17, N18, N19, N20, N21, N22, N23, N24, N25, N26, N27, N28, N29, N30, N31, N32, N33, N34, N35, N36, N37, N38, N39, N40, N41, N42, N43, N45, N48, N57, N59, N88, N89, N97, N99, N120, N121, N122, N179, N200, N255, N300, N400, N880, N900, N999, N1019, N50000000, N100000000, N1000000000, N2147483647, N2147483648, e1, bn_t, f_X7_beginsRound_17]
  · cases x with
    | false =>
      rw [Bool.not_false] at e1
      simp (disch := omega) only [gd_t, bd_s, nm_W, nm_I, I_add, I_sub, I_mul, I_neg, I_le_t, I_le_f, I_lt_t, I_lt_f, I_eq_t, I_eq_f, I_inb', I_ix', Int.toNat_natCast, decide_true, decide_false, Bool.not_true, if_true, if_false, wi_eq, wi_eq', wi_ne, wi_row, wi_2, N0, N1, N2, N3, N4, N5, N6, N7, N8, N9, N10, N11, N12, N13, N14, N15, N16, N17, N18, N19, N20, N21, N22, N23, N24, N25, N26, N27, N28, N29, N30, N31, N32, N33, N34, N35, N36, N37, N38, N39, N40, N41, N42, N43, N45, N48, N57, N59, N88, N89, N97, N99, N120, N121, N122, N179, N200, N255, N300, N400, N880, N900, N999, N1019, N50000000, N100000000, N1000000000, N2147483647, N2147483648, e1, bn_t, f_X7_beginsRound_17]
    | true =>
      rw [Bool.not_true] at e1
      simp (disch := omega) only [gd_t, bd_s, nm_W, nm_I, I_add, I_sub, I_mul, I_neg, I_le_t, I_le_f, I_lt_t, I_lt_f, I_eq_t, I_eq_f, I_inb', I_ix', Int.toNat_natCast, decide_true, decide_false, Bool.not_false, if_true, if_false, wi_eq, wi_eq', wi_ne, wi_row, wi_2, N0, N1, N2, N3, N4, N5, N6, N7, N8, N9, N10, N11, N12, N13, N14, N15, N16, N17, N18, N19, N20, N21, N22, N23, N24, N25, N26, N27, N28, N29, N30, N31, N32, N33, N34, N35, N36, N37, N38, N39, N40, N41, N42, N43, N45, N48, N57, N59, N88, N89, N97, N99, N120, N121, N122, N179, N200, N255, N300, N400, N880, N900, N999, N1019, N50000000, N100000000, N1000000000, N2147483647, N2147483648, e1, bn_f, w38, r2, f_X7_beginsRound_17]
theorem br_nolot {τ τ1 : Wd} {s : Int} (e1 : f_X7_isUnderWay τ = some (I 0, τ)) (r2 : τ.1 112 38 = I s) (s0 : 0 < s) (s1 : s ≤ 120) (e2 : f_X7_laysBest (I s) (I (-1)) τ = some (0, τ1)) (e3 : τ1.1 102 37 = I 0) : f_X7_beginsRound τ = some (I 0, τ1) := by
  have w38 : Int.toNat 38 = 38 := rfl
  unfold f_X7_beginsRound
  simp (disch := omega) only [gd_t, bd_s, nm_W, nm_I, I_add, I_sub, I_mul, I_neg, I_le_t, I_le_f, I_lt_t, I_lt_f, I_eq_t, I_eq_f, I_inb', I_ix', Int.toNat_natCast, decide_true, decide_false, Bool.not_false, Bool.not_true, if_true, if_false, wi_eq, wi_eq', wi_ne, wi_row, wi_2, N0, N1, N2, N3, N4, N5, N6, N7, N8, N9, N10, N11, N12, N13, N14, N15, N16, N17, N18, N19, N20, N21, N22, N23, N24, N25, N26, N27, N28, N29, N30, N31, N32, N33, N34, N35, N36, N37, N38, N39, N40, N41, N42, N43, N45, N48, N57, N59, N88, N89, N97, N99, N120, N121, N122, N179, N200, N255, N300, N400, N880, N900, N999, N1019, N50000000, N100000000, N1000000000, N2147483647, N2147483648, e1, w38, r2, e2, e3]
theorem br_go {τ τ1 : Wd} {s rd P U : Int} {b : Bool} (e1 : f_X7_isUnderWay τ = some (I 0, τ)) (r2 : τ.1 112 38 = I s) (s0 : 0 < s) (s1 : s ≤ 120) (e2 : f_X7_laysBest (I s) (I (-1)) τ = some (0, τ1)) (e3 : τ1.1 102 37 = I U) (U0 : 0 < U) (U1 : U ≤ 120) (r6 : τ1.1 112 42 = I rd) (rd0 : 0 ≤ rd) (rd1 : rd ≤ 2000000)
    (e4 : f_X7_planUnits τ1 = some (I P, τ1)) (P0 : 0 ≤ P) (P1 : P ≤ 1000) (e5 : f_X7_canHavePlan τ1 = some (I (bn b), τ1)) :
    f_X7_beginsRound τ = if (decide (rd = 0 ∧ 0 < P) && b) = true then f_X7_beginsRound_68 FU (I 0) τ1 else f_X7_beginsRound_97 τ1 := by
  have w38 : Int.toNat 38 = 38 := rfl
  have w42 : Int.toNat 42 = 42 := rfl
  by_cases c1 : rd = 0
  · by_cases c2 : 0 < P
    · rw [decide_eq_true (show rd = 0 ∧ 0 < P from ⟨c1, c2⟩), Bool.true_and]
      cases b with
      | false =>
        rw [if_neg (show ¬ false = true by decide)]
        unfold f_X7_beginsRound
        simp (disch := omega) only [gd_t, bd_s, nm_W, nm_I, I_add, I_sub, I_mul, I_neg, I_le_t, I_le_f, I_lt_t, I_lt_f, I_eq_t, I_eq_f, I_inb', I_ix', Int.toNat_natCast, decide_true, decide_false, Bool.not_false, Bool.not_true, if_true, if_false, wi_eq, wi_eq', wi_ne, wi_row, wi_2, N0, N1, N2, N3, N4, N5, N6, N7, N8, N9, N10, N11, N12, N13, N14, N15, N16, N17, N18, N19, N20, N21, N22, N23, N24, N25, N26, N27, N28, N29, N30, N31, N32, N33, N34, N35, N36, N37, N38, N39, N40, N41, N42, N43, N45, N48, N57, N59, N88, N89, N97, N99, N120, N121, N122, N179, N200, N255, N300, N400, N880, N900, N999, N1019, N50000000, N100000000, N1000000000, N2147483647, N2147483648, e1, w38, r2, e2, e3, e4, w42, r6, e5, bn_f]
      | true =>
        rw [if_pos rfl]
        unfold f_X7_beginsRound
        simp (disch := omega) only [gd_t, bd_s, nm_W, nm_I, I_add, I_sub, I_mul, I_neg, I_le_t, I_le_f, I_lt_t, I_lt_f, I_eq_t, I_eq_f, I_inb', I_ix', Int.toNat_natCast, decide_true, decide_false, Bool.not_false, Bool.not_true, if_true, if_false, wi_eq, wi_eq', wi_ne, wi_row, wi_2, N0, N1, N2, N3, N4, N5, N6, N7, N8, N9, N10, N11, N12, N13, N14, N15, N16, N17, N18, N19, N20, N21, N22, N23, N24, N25, N26, N27, N28, N29, N30, N31, N32, N33, N34, N35, N36, N37, N38, N39, N40, N41, N42, N43, N45, N48, N57, N59, N88, N89, N97, N99, N120, N121, N122, N179, N200, N255, N300, N400, N880, N900, N999, N1019, N50000000, N100000000, N1000000000, N2147483647, N2147483648, e1, w38, r2, e2, e3, e4, w42, r6, e5, bn_t]
    · rw [decide_eq_false (fun q : rd = 0 ∧ 0 < P => c2 q.2), Bool.false_and, if_neg (show ¬ false = true by decide)]
      unfold f_X7_beginsRound
      simp (disch := omega) only [gd_t, bd_s, nm_W, nm_I, I_add, I_sub, I_mul, I_neg, I_le_t, I_le_f, I_lt_t, I_lt_f, I_eq_t, I_eq_f, I_inb', I_ix', Int.toNat_natCast, decide_true, decide_false, Bool.not_false, Bool.not_true, if_true, if_false, wi_eq, wi_eq', wi_ne, wi_row, wi_2, N0, N1, N2, N3, N4, N5, N6, N7, N8, N9, N10, N11, N12, N13, N14, N15, N16, N17, N18, N19, N20, N21, N22, N23, N24, N25, N26, N27, N28, N29, N30, N31, N32, N33, N34, N35, N36, N37, N38, N39, N40, N41, N42, N43, N45, N48, N57, N59, N88, N89, N97, N99, N120, N121, N122, N179, N200, N255, N300, N400, N880, N900, N999, N1019, N50000000, N100000000, N1000000000, N2147483647, N2147483648, e1, w38, r2, e2, e3, e4, w42, r6]
  · rw [decide_eq_false (fun q : rd = 0 ∧ 0 < P => c1 q.1), Bool.false_and, if_neg (show ¬ false = true by decide)]
    unfold f_X7_beginsRound
    simp (disch := omega) only [gd_t, bd_s, nm_W, nm_I, I_add, I_sub, I_mul, I_neg, I_le_t, I_le_f, I_lt_t, I_lt_f, I_eq_t, I_eq_f, I_inb', I_ix', Int.toNat_natCast, decide_true, decide_false, Bool.not_false, Bool.not_true, if_true, if_false, wi_eq, wi_eq', wi_ne, wi_row, wi_2, N0, N1, N2, N3, N4, N5, N6, N7, N8, N9, N10, N11, N12, N13, N14, N15, N16, N17, N18, N19, N20, N21, N22, N23, N24, N25, N26, N27, N28, N29, N30, N31, N32, N33, N34, N35, N36, N37, N38, N39, N40, N41, N42, N43, N45, N48, N57, N59, N88, N89, N97, N99, N120, N121, N122, N179, N200, N255, N300, N400, N880, N900, N999, N1019, N50000000, N100000000, N1000000000, N2147483647, N2147483648, e1, w38, r2, e2, e3, e4, w42, r6]
theorem br_97 {τ : Wd} {rd : Int} (r6 : τ.1 112 42 = I rd) : f_X7_beginsRound_97 τ = f_X7_beginsRound_112 FU (I 0) (I 0) (wi τ 112 42 (I (rd + 1))) := by
  have w42 : Int.toNat 42 = 42 := rfl
  unfold f_X7_beginsRound_97
  simp (disch := omega) only [gd_t, bd_s, nm_W, nm_I, I_add, I_sub, I_mul, I_neg, I_le_t, I_le_f, I_lt_t, I_lt_f, I_eq_t, I_eq_f, I_inb', I_ix', Int.toNat_natCast, decide_true, decide_false, Bool.not_false, Bool.not_true, if_true, if_false, wi_eq, wi_eq', wi_ne, wi_row, wi_2, N0, N1, N2, N3, N4, N5, N6, N7, N8, N9, N10, N11, N12, N13, N14, N15, N16, N17, N18, N19, N20, N21, N22, N23, N24, N25, N26, N27, N28, N29, N30, N31, N32, N33, N34, N35, N36, N37, N38, N39, N40, N41, N42, N43, N45, N48, N57, N59, N88, N89, N97, N99, N120, N121, N122, N179, N200, N255, N300, N400, N880, N900, N999, N1019, N50000000, N100000000, N1000000000, N2147483647, N2147483648, w42, r6]
/-- what a round leaves alone -/
def RF (m r : Nat) (σ τ σ' τ' : Wd) : Prop := ((∀ k, k < 4 ∨ 9 < k → k < r ∨ r + 8 < k → σ'.1 k = σ.1 k) ∧ (∀ i, i ≠ 6 → σ'.1 r i = σ.1 r i) ∧ σ'.2 = σ.2)
  ∧ ((∀ k, k ≠ 102 → k ≠ 112 → k ≠ 116 → k ≠ 117 → τ'.1 k = τ.1 k) ∧ (∀ i, i ≠ 37 → i ≠ 38 → τ'.1 102 i = τ.1 102 i) ∧ τ'.2 = τ.2)
