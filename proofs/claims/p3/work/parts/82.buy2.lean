/-! PURE: buying, whole -/
set_option maxHeartbeats 1000000 in
theorem buy_ok {m r V v : Nat} {d : MD} {σ τ : Wd} {n g c : Int} (hm : 10 < m) (hmr : m + 12 < r) (hv : v < V) (hd : MDok d V) (hc : CV m σ V d) (hr : RV τ V d) (hL : LR (r + 9) σ τ V d)
    (sn : σ.1 (r + 2) v = I n) (sg : σ.1 (r + 3) v = I g) (sc : σ.1 (r + 6) v = I c) (tn : τ.1 112 (49 + 8 * v) = I n) (tg : τ.1 112 (50 + 8 * v) = I g) (tc : τ.1 112 (52 + 8 * v) = I c) (c0 : 0 ≤ c) (c1 : c ≤ 999) (g0 : 0 ≤ g) (gn : g ≤ n) (n1 : n ≤ 120) :
    ∃ (σ' τ' : Wd) (d' : MD) (pay : Int32) (x : Int), f_X4_buy r m (I (v : Int)) σ = some (0, σ') ∧ f_X7_buys (I (v : Int)) τ = some (I x, τ') ∧ 0 ≤ x ∧ x ≤ n - g
      ∧ MDok d' V ∧ CV m σ' V d' ∧ RV τ' V d' ∧ LR (r + 9) σ' τ' V d' ∧ (d'.1 = d.1 ∧ d'.lv = d.lv ∧ d'.pr = d.pr)
      ∧ (σ'.1 (r + 3) v = I (g + x) ∧ τ'.1 112 (50 + 8 * v) = I (g + x) ∧ σ'.1 r 3 = σ.1 r 3 + I x ∧ τ'.1 112 39 = τ.1 112 39 + I x ∧ σ'.1 (r + 4) v = σ.1 (r + 4) v + pay ∧ σ'.1 r 4 = σ.1 r 4 + pay ∧ τ'.1 112 (55 + 8 * v) = τ.1 112 (55 + 8 * v) + pay ∧ τ'.1 112 40 = τ.1 112 40 + pay)
      ∧ ((∀ i, i ≠ 3 → i ≠ 4 → σ'.1 r i = σ.1 r i) ∧ (∀ w, w ≠ v → σ'.1 (r + 3) w = σ.1 (r + 3) w ∧ σ'.1 (r + 4) w = σ.1 (r + 4) w) ∧ (∀ k, k ≠ m + 9 → k ≠ r → k ≠ r + 3 → k ≠ r + 4 → k < r + 9 ∨ r + 12 < k → σ'.1 k = σ.1 k) ∧ σ'.2 = σ.2)
      ∧ ((∀ k, k ≠ 112 → τ'.1 k = τ.1 k) ∧ (∀ i, 30 ≤ i → i < 88 → i ≠ 39 → i ≠ 40 → i ≠ 50 + 8 * v → i ≠ 55 + 8 * v → τ'.1 112 i = τ.1 112 i) ∧ τ'.2 = τ.2) := by
  have v5 : v < 5 := Nat.lt_of_lt_of_le hv hd.1
  obtain ⟨-, lb, -, -, l6, lok⟩ := hd.2 v hv
  have db := dep_bnd (p := c) hd hv
  have dt : dep d c v ≤ ts d.sz (d.lv v) (6 * v) := uz_ts _ _ lok
  obtain ⟨mn, hmn⟩ : ∃ mn, mn = (if n - g ≤ dep d c v then n - g else dep d c v) := ⟨_, rfl⟩
  have mb : 0 ≤ mn ∧ mn ≤ n - g ∧ mn ≤ dep d c v := by
    split at hmn <;> omega
  have me := Int.emod_nonneg mn (show d.lo v ≠ 0 by omega)
  have ml := Int.emod_lt_of_pos mn (show 0 < d.lo v by omega)
  have em : I mn % I (d.lo v) = I (mn % d.lo v) := I_mod (by unfold R; omega) (by unfold R; omega) mb.1 (by omega)
  have ed : I mn / I (d.lo v) = I (mn / d.lo v) := I_div (by unfold R; omega) (by unfold R; omega) mb.1 (by omega)
  have e2 := Int.mul_ediv_add_emod mn (d.lo v)
  have ex : mn / d.lo v * d.lo v = mn - mn % d.lo v := by rw [Int.mul_comm]; omega
  have mlt : mn % d.lo v ≤ mn := by
    have := Int.mul_nonneg (show 0 ≤ d.lo v by omega) (Int.ediv_nonneg mb.1 (show 0 ≤ d.lo v by omega))
    omega
  obtain ⟨x, hx⟩ : ∃ x, x = mn - mn % d.lo v := ⟨_, rfl⟩
  have t1 : ((48 : Int) + 8 * (v : Int) + 1).toNat = 49 + 8 * v := by omega
  have t2 : ((48 : Int) + 8 * (v : Int) + 2).toNat = 50 + 8 * v := by omega
  have t4 : ((48 : Int) + 8 * (v : Int) + 4).toNat = 52 + 8 * v := by omega
  have t39 : Int.toNat 39 = 39 := rfl
  have eu := cUnits hc hd hv (show R c by unfold R; omega)
  have ru := rUnits hr hd hv (show R c by unfold R; omega)
  obtain ⟨σ', τ', d', pay, q1, q2, q3, q4, q5, q6, q7, ⟨g1, g2, g3, g4, g5, g6⟩, fc, ⟨f5, f6, f7⟩⟩ := buy_loop (x5 := I x) hm hmr hv (d.lv v) 0 FU FU x 0 d σ τ rfl (by omega) (by show _ < 6000; omega) (by show _ < 6000; omega) (by omega) (by omega) (by rw [Nat.add_zero]; omega) hd hc hr hL
  have a50 : τ'.1 112 (50 + 8 * v) = I g := by rw [f6 _ (by omega) (by omega) (by omega) (by omega)]; exact tg
  have a39 : τ'.1 112 39 = τ.1 112 39 := f6 _ (by omega) (by omega) (by omega) (by omega)
  refine ⟨σ', wi (wi τ' 112 (50 + 8 * v) (I (g + x))) 112 39 (τ.1 112 39 + I x), d', pay, x, ?_, ?_, by omega, by omega, q3, q4, RV_wi (RV_wi q5 q3.1 (lv6 q3) (by omega)) q3.1 (lv6 q3) (by omega), LR_congr q6 rfl rfl (fun _ _ _ => rfl) (fun i hi => by simp (disch := omega) only [wi_eq, wi_eq', wi_ne, wi_row, wi_2]), q7,
    ⟨by rw [g1, sg, I_add], by simp (disch := omega) only [wi_eq, wi_eq', wi_ne, wi_row, wi_2], g2, by simp (disch := omega) only [wi_eq, wi_eq', wi_ne, wi_row, wi_2], g3, g4, ?_, ?_⟩, fc, ⟨fun k hk => ?_, fun i h1 h2 h3 h4 h5 h6 => ?_, ?_⟩⟩
  · rw [← q1]
    unfold f_X4_buy
    by_cases cc : n - g ≤ dep d c v
    · rw [if_pos cc] at hmn
      subst hmn
      simp (disch := omega) only [gd_t, bd_s, nm_W, nm_I, I_add, I_sub, I_mul, I_neg, I_le_t, I_le_f, I_lt_t, I_lt_f, I_eq_t, I_eq_f, I_inb', I_ix', Int.toNat_natCast, decide_true, decide_false, Bool.not_false, Bool.not_true, if_true, if_false, wi_eq, wi_eq', wi_ne, wi_row, wi_2, N0, N1, N2, N3, N4, N5, N6, N7, N8, N9, N10, N11, N12, N13, N14, N15, N16, N17, N18, N19, N20, N21, N22, N23, N24, N25, N26, N27, N28, N29, N30, N31, N32, N33, N34, N35, N36, N37, N38, N39, N40, N41, N42, N43, N45, N48, N57, N59, N88, N89, N97, N99, N120, N121, N122, N179, N200, N255, N300, N400, N880, N900, N999, N1019, N50000000, N100000000, N1000000000, N2147483647, N2147483648, sc, eu, sn, sg, f_X4_buy_39, cLot hc hd hv, em]
      rw [← hx]
    · rw [if_neg cc] at hmn
      subst hmn
      simp (disch := omega) only [gd_t, bd_s, nm_W, nm_I, I_add, I_sub, I_mul, I_neg, I_le_t, I_le_f, I_lt_t, I_lt_f, I_eq_t, I_eq_f, I_inb', I_ix', Int.toNat_natCast, decide_true, decide_false, Bool.not_false, Bool.not_true, if_true, if_false, wi_eq, wi_eq', wi_ne, wi_row, wi_2, N0, N1, N2, N3, N4, N5, N6, N7, N8, N9, N10, N11, N12, N13, N14, N15, N16, N17, N18, N19, N20, N21, N22, N23, N24, N25, N26, N27, N28, N29, N30, N31, N32, N33, N34, N35, N36, N37, N38, N39, N40, N41, N42, N43, N45, N48, N57, N59, N88, N89, N97, N99, N120, N121, N122, N179, N200, N255, N300, N400, N880, N900, N999, N1019, N50000000, N100000000, N1000000000, N2147483647, N2147483648, sc, eu, sn, sg, f_X4_buy_39, cLot hc hd hv, em]
      rw [← hx]
  · have e3 : f_X7_buys_50 (I (v : Int)) (I (48 + 8 * (v : Int))) (I mn) τ = f_X7_buys_208 (I (48 + 8 * (v : Int))) (I x) τ' := by
      rw [← q2]
      unfold f_X7_buys_50
      simp (disch := omega) only [gd_t, bd_s, nm_W, nm_I, I_add, I_sub, I_mul, I_neg, I_le_t, I_le_f, I_lt_t, I_lt_f, I_eq_t, I_eq_f, I_inb', I_ix', Int.toNat_natCast, decide_true, decide_false, Bool.not_false, Bool.not_true, if_true, if_false, wi_eq, wi_eq', wi_ne, wi_row, wi_2, N0, N1, N2, N3, N4, N5, N6, N7, N8, N9, N10, N11, N12, N13, N14, N15, N16, N17, N18, N19, N20, N21, N22, N23, N24, N25, N26, N27, N28, N29, N30, N31, N32, N33, N34, N35, N36, N37, N38, N39, N40, N41, N42, N43, N45, N48, N57, N59, N88, N89, N97, N99, N120, N121, N122, N179, N200, N255, N300, N400, N880, N900, N999, N1019, N50000000, N100000000, N1000000000, N2147483647, N2147483648, rLot hr hd hv, ed, ex, ← hx]
    have e4 : f_X7_buys_208 (I (48 + 8 * (v : Int))) (I x) τ' = some (I x, wi (wi τ' 112 (50 + 8 * v) (I (g + x))) 112 39 (τ.1 112 39 + I x)) := by
      unfold f_X7_buys_208
      simp (disch := omega) only [gd_t, bd_s, nm_W, nm_I, I_add, I_sub, I_mul, I_neg, I_le_t, I_le_f, I_lt_t, I_lt_f, I_eq_t, I_eq_f, I_inb', I_ix', Int.toNat_natCast, decide_true, decide_false, Bool.not_false, Bool.not_true, if_true, if_false, wi_eq, wi_eq', wi_ne, wi_row, wi_2, N0, N1, N2, N3, N4, N5, N6, N7, N8, N9, N10, N11, N12, N13, N14, N15, N16, N17, N18, N19, N20, N21, N22, N23, N24, N25, N26, N27, N28, N29, N30, N31, N32, N33, N34, N35, N36, N37, N38, N39, N40, N41, N42, N43, N45, N48, N57, N59, N88, N89, N97, N99, N120, N121, N122, N179, N200, N255, N300, N400, N880, N900, N999, N1019, N50000000, N100000000, N1000000000, N2147483647, N2147483648, t2, t39, a50, a39]
    rw [← e4, ← e3]
    unfold f_X7_buys f_X7_partAt
    by_cases cc : dep d c v ≤ n - g
    · by_cases c3 : n - g ≤ dep d c v
      · have e5 : mn = dep d c v := by rw [if_pos c3] at hmn; omega
        rw [e5]
        simp (disch := omega) only [gd_t, bd_s, nm_W, nm_I, I_add, I_sub, I_mul, I_neg, I_le_t, I_le_f, I_lt_t, I_lt_f, I_eq_t, I_eq_f, I_inb', I_ix', Int.toNat_natCast, decide_true, decide_false, Bool.not_false, Bool.not_true, if_true, if_false, wi_eq, wi_eq', wi_ne, wi_row, wi_2, N0, N1, N2, N3, N4, N5, N6, N7, N8, N9, N10, N11, N12, N13, N14, N15, N16, N17, N18, N19, N20, N21, N22, N23, N24, N25, N26, N27, N28, N29, N30, N31, N32, N33, N34, N35, N36, N37, N38, N39, N40, N41, N42, N43, N45, N48, N57, N59, N88, N89, N97, N99, N120, N121, N122, N179, N200, N255, N300, N400, N880, N900, N999, N1019, N50000000, N100000000, N1000000000, N2147483647, N2147483648, t1, t2, t4, tn, tg, tc, ru]
      · rw [if_neg c3] at hmn
        rw [hmn]
        simp (disch := omega) only [gd_t, bd_s, nm_W, nm_I, I_add, I_sub, I_mul, I_neg, I_le_t, I_le_f, I_lt_t, I_lt_f, I_eq_t, I_eq_f, I_inb', I_ix', Int.toNat_natCast, decide_true, decide_false, Bool.not_false, Bool.not_true, if_true, if_false, wi_eq, wi_eq', wi_ne, wi_row, wi_2, N0, N1, N2, N3, N4, N5, N6, N7, N8, N9, N10, N11, N12, N13, N14, N15, N16, N17, N18, N19, N20, N21, N22, N23, N24, N25, N26, N27, N28, N29, N30, N31, N32, N33, N34, N35, N36, N37, N38, N39, N40, N41, N42, N43, N45, N48, N57, N59, N88, N89, N97, N99, N120, N121, N122, N179, N200, N255, N300, N400, N880, N900, N999, N1019, N50000000, N100000000, N1000000000, N2147483647, N2147483648, t1, t2, t4, tn, tg, tc, ru]
    · rw [if_pos (show n - g ≤ dep d c v by omega)] at hmn
      rw [hmn]
      simp (disch := omega) only [gd_t, bd_s, nm_W, nm_I, I_add, I_sub, I_mul, I_neg, I_le_t, I_le_f, I_lt_t, I_lt_f, I_eq_t, I_eq_f, I_inb', I_ix', Int.toNat_natCast, decide_true, decide_false, Bool.not_false, Bool.not_true, if_true, if_false, wi_eq, wi_eq', wi_ne, wi_row, wi_2, N0, N1, N2, N3, N4, N5, N6, N7, N8, N9, N10, N11, N12, N13, N14, N15, N16, N17, N18, N19, N20, N21, N22, N23, N24, N25, N26, N27, N28, N29, N30, N31, N32, N33, N34, N35, N36, N37, N38, N39, N40, N41, N42, N43, N45, N48, N57, N59, N88, N89, N97, N99, N120, N121, N122, N179, N200, N255, N300, N400, N880, N900, N999, N1019, N50000000, N100000000, N1000000000, N2147483647, N2147483648, t1, t2, t4, tn, tg, tc, ru]
  · simp (disch := omega) only [wi_eq, wi_eq', wi_ne, wi_row, wi_2]
    exact g5
  · simp (disch := omega) only [wi_eq, wi_eq', wi_ne, wi_row, wi_2]
    exact g6
  · rw [wi_row hk, wi_row hk]
    exact f5 k hk
  · simp (disch := omega) only [wi_eq, wi_eq', wi_ne, wi_row, wi_2]
    exact f6 i h1 h2 h4 h6
  · rw [wi_2, wi_2]
    exact f7
