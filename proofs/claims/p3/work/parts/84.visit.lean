/-! PURE: a venue's part in a tick -/
/-- what a visit leaves alone -/
def VF (m r v : Nat) (σ τ σ' τ' : Wd) : Prop := ((∀ k, k ≠ m + 9 → k < r ∨ r + 12 < k → σ'.1 k = σ.1 k) ∧ (∀ k, r + 1 ≤ k → k ≤ r + 8 → ∀ w, w ≠ v → σ'.1 k w = σ.1 k w) ∧ (∀ i, 6 ≤ i → i ≤ 7 → σ'.1 r i = σ.1 r i) ∧ σ'.2 = σ.2)
  ∧ ((∀ k, k ≠ 112 → τ'.1 k = τ.1 k) ∧ (∀ i, 48 ≤ i → i < 88 → i < 48 + 8 * v ∨ 56 + 8 * v ≤ i → τ'.1 112 i = τ.1 112 i) ∧ τ'.2 = τ.2)
theorem VF_refl {m r v : Nat} {σ τ : Wd} : VF m r v σ τ σ τ := ⟨⟨fun _ _ _ => rfl, fun _ _ _ _ _ => rfl, fun _ _ _ => rfl, rfl⟩, ⟨fun _ _ => rfl, fun _ _ _ _ => rfl, rfl⟩⟩
theorem VF_trans {m r v : Nat} {σ τ σ1 τ1 σ2 τ2 : Wd} (h : VF m r v σ τ σ1 τ1) (g : VF m r v σ1 τ1 σ2 τ2) : VF m r v σ τ σ2 τ2 :=
  ⟨⟨fun k h1 h2 => by rw [g.1.1 k h1 h2, h.1.1 k h1 h2], fun k h1 h2 w hw => by rw [g.1.2.1 k h1 h2 w hw, h.1.2.1 k h1 h2 w hw], fun i a b => by rw [g.1.2.2.1 i a b, h.1.2.2.1 i a b], by rw [g.1.2.2.2, h.1.2.2.2]⟩,
    ⟨fun k hk => by rw [g.2.1 k hk, h.2.1 k hk], fun i h1 h2 h3 => by rw [g.2.2.1 i h1 h2 h3, h.2.2.1 i h1 h2 h3], by rw [g.2.2.2, h.2.2.2]⟩⟩
theorem v_skip {m r v : Nat} {σ : Wd} {h : Int} (v5 : v < 5) (h1 : σ.1 (r + 1) v = I h) (hh : h = 0) : f_X4_visit r m (I (v : Int)) σ = some (0, σ) := by
  unfold f_X4_visit f_X4_visit_45
  simp (disch := omega) only [gd_t, bd_s, nm_W, nm_I, I_add, I_sub, I_mul, I_neg, I_le_t, I_le_f, I_lt_t, I_lt_f, I_eq_t, I_eq_f, I_inb', I_ix', Int.toNat_natCast, decide_true, decide_false, Bool.not_false, Bool.not_true, if_true, if_false, wi_eq, wi_eq', wi_ne, wi_row, wi_2, N0, N1, N2, N3, N4, N5, N6, N7, N8, N9, N10, N11, N12, N13, N14, N15, N16, N17, N18, N19, N20, N21, N22, N23, N24, N25, N26, N27, N28, N29, N30, N31, N32, N33, N34, N35, N36, N37, N38, N39, N40, N41, N42, N43, N45, N48, N57, N59, N88, N89, N97, N99, N120, N121, N122, N179, N200, N255, N300, N400, N880, N900, N999, N1019, N50000000, N100000000, N1000000000, N2147483647, N2147483648, h1, f_X4_visit_154]
theorem v_wait {m r v : Nat} {σ : Wd} {h t u : Int} (v5 : v < 5) (h1 : σ.1 (r + 1) v = I h) (hh : h = 1 ∨ h = 3) (r1 : σ.1 r 1 = I t) (h7 : σ.1 (r + 7) v = I u) (t0 : 0 ≤ t) (t1 : t < u) (u1 : u ≤ 2000000) : f_X4_visit r m (I (v : Int)) σ = some (0, σ) := by
  unfold f_X4_visit f_X4_visit_45
  rcases hh with hh | hh
  · simp (disch := omega) only [gd_t, bd_s, nm_W, nm_I, I_add, I_sub, I_mul, I_neg, I_le_t, I_le_f, I_lt_t, I_lt_f, I_eq_t, I_eq_f, I_inb', I_ix', Int.toNat_natCast, decide_true, decide_false, Bool.not_false, Bool.not_true, if_true, if_false, wi_eq, wi_eq', wi_ne, wi_row, wi_2, N0, N1, N2, N3, N4, N5, N6, N7, N8, N9, N10, N11, N12, N13, N14, N15, N16, N17, N18, N19, N20, N21, N22, N23, N24, N25, N26, N27, N28, N29, N30, N31, N32, N33, N34, N35, N36, N37, N38, N39, N40, N41, N42, N43, N45, N48, N57, N59, N88, N89, N97, N99, N120, N121, N122, N179, N200, N255, N300, N400, N880, N900, N999, N1019, N50000000, N100000000, N1000000000, N2147483647, N2147483648, h1, r1, h7, f_X4_visit_154]
  · simp (disch := omega) only [gd_t, bd_s, nm_W, nm_I, I_add, I_sub, I_mul, I_neg, I_le_t, I_le_f, I_lt_t, I_lt_f, I_eq_t, I_eq_f, I_inb', I_ix', Int.toNat_natCast, decide_true, decide_false, Bool.not_false, Bool.not_true, if_true, if_false, wi_eq, wi_eq', wi_ne, wi_row, wi_2, N0, N1, N2, N3, N4, N5, N6, N7, N8, N9, N10, N11, N12, N13, N14, N15, N16, N17, N18, N19, N20, N21, N22, N23, N24, N25, N26, N27, N28, N29, N30, N31, N32, N33, N34, N35, N36, N37, N38, N39, N40, N41, N42, N43, N45, N48, N57, N59, N88, N89, N97, N99, N120, N121, N122, N179, N200, N255, N300, N400, N880, N900, N999, N1019, N50000000, N100000000, N1000000000, N2147483647, N2147483648, h1, r1, h7, f_X4_visit_154]
theorem v_come {m r v : Nat} {σ : Wd} {t L : Int} (v5 : v < 5) (mr : m + 12 < r) (h1 : σ.1 (r + 1) v = I 1) (r1 : σ.1 r 1 = I t) (h7 : σ.1 (r + 7) v = I t) (t0 : 0 ≤ t) (t1 : t ≤ 2000000) (m5 : σ.1 m 2 = I L) : f_X4_visit r m (I (v : Int)) σ = f_X4_visit_45 r m (I (v : Int)) (wi (wi σ (r + 1) v (I 2)) (r + 7) v (I (t + L))) := by
  unfold f_X4_visit
  simp (disch := omega) only [gd_t, bd_s, nm_W, nm_I, I_add, I_sub, I_mul, I_neg, I_le_t, I_le_f, I_lt_t, I_lt_f, I_eq_t, I_eq_f, I_inb', I_ix', Int.toNat_natCast, decide_true, decide_false, Bool.not_false, Bool.not_true, if_true, if_false, wi_eq, wi_eq', wi_ne, wi_row, wi_2, N0, N1, N2, N3, N4, N5, N6, N7, N8, N9, N10, N11, N12, N13, N14, N15, N16, N17, N18, N19, N20, N21, N22, N23, N24, N25, N26, N27, N28, N29, N30, N31, N32, N33, N34, N35, N36, N37, N38, N39, N40, N41, N42, N43, N45, N48, N57, N59, N88, N89, N97, N99, N120, N121, N122, N179, N200, N255, N300, N400, N880, N900, N999, N1019, N50000000, N100000000, N1000000000, N2147483647, N2147483648, h1, r1, h7, m5]
theorem v_rest {m r v : Nat} {σ : Wd} (v5 : v < 5) (h1 : σ.1 (r + 1) v = I 2) : f_X4_visit r m (I (v : Int)) σ = f_X4_visit_45 r m (I (v : Int)) σ := by
  unfold f_X4_visit
  simp (disch := omega) only [gd_t, bd_s, nm_W, nm_I, I_add, I_sub, I_mul, I_neg, I_le_t, I_le_f, I_lt_t, I_lt_f, I_eq_t, I_eq_f, I_inb', I_ix', Int.toNat_natCast, decide_true, decide_false, Bool.not_false, Bool.not_true, if_true, if_false, wi_eq, wi_eq', wi_ne, wi_row, wi_2, N0, N1, N2, N3, N4, N5, N6, N7, N8, N9, N10, N11, N12, N13, N14, N15, N16, N17, N18, N19, N20, N21, N22, N23, N24, N25, N26, N27, N28, N29, N30, N31, N32, N33, N34, N35, N36, N37, N38, N39, N40, N41, N42, N43, N45, N48, N57, N59, N88, N89, N97, N99, N120, N121, N122, N179, N200, N255, N300, N400, N880, N900, N999, N1019, N50000000, N100000000, N1000000000, N2147483647, N2147483648, h1]
theorem v_answ {m r v : Nat} {σ : Wd} {t s g : Int} (v5 : v < 5) (h1 : σ.1 (r + 1) v = I 3) (r1 : σ.1 r 1 = I t) (h7 : σ.1 (r + 7) v = I t) (t0 : 0 ≤ t) (t1 : t ≤ 2000000) (r2 : σ.1 r 2 = I s) (h3 : σ.1 (r + 3) v = I g) : f_X4_visit r m (I (v : Int)) σ = some (0, dropW r v (wi σ r 2 (I (s - g)))) := by
  unfold f_X4_visit f_X4_visit_45
  simp (disch := omega) only [gd_t, bd_s, nm_W, nm_I, I_add, I_sub, I_mul, I_neg, I_le_t, I_le_f, I_lt_t, I_lt_f, I_eq_t, I_eq_f, I_inb', I_ix', Int.toNat_natCast, decide_true, decide_false, Bool.not_false, Bool.not_true, if_true, if_false, wi_eq, wi_eq', wi_ne, wi_row, wi_2, N0, N1, N2, N3, N4, N5, N6, N7, N8, N9, N10, N11, N12, N13, N14, N15, N16, N17, N18, N19, N20, N21, N22, N23, N24, N25, N26, N27, N28, N29, N30, N31, N32, N33, N34, N35, N36, N37, N38, N39, N40, N41, N42, N43, N45, N48, N57, N59, N88, N89, N97, N99, N120, N121, N122, N179, N200, N255, N300, N400, N880, N900, N999, N1019, N50000000, N100000000, N1000000000, N2147483647, N2147483648, h1, r1, h7, r2, h3, cDrop v5, f_X4_visit_154]
theorem v_buy {m r v : Nat} {σ σb : Wd} {t g n k u : Int} (v5 : v < 5) (h1 : σ.1 (r + 1) v = I 2) (q1 : f_X4_buy r m (I (v : Int)) σ = some (0, σb)) (a1 : σb.1 (r + 3) v = I g) (b2 : σb.1 (r + 2) v = I n) (b8 : σb.1 (r + 8) v = I k) (st : σb.1 r 1 = I t) (b7 : σb.1 (r + 7) v = I u)
    (g0 : 0 ≤ g) (g1 : g ≤ n) (n1 : n ≤ 120) (k0 : -2 ≤ k) (k1 : k ≤ 2000000) (t0 : 0 ≤ t) (t1 : t ≤ 2000000) (u0 : t ≤ u) (u1 : u ≤ 2000000) : f_X4_visit_45 r m (I (v : Int)) σ = if g ≠ n ∧ k ≠ t ∧ t < u then some (0, σb) else f_X4_visit_102 r m (I (v : Int)) σb := by
  by_cases d1 : g = n
  · rw [if_neg (fun q => q.1 d1)]
    unfold f_X4_visit_45
    simp (disch := omega) only [gd_t, bd_s, nm_W, nm_I, I_add, I_sub, I_mul, I_neg, I_le_t, I_le_f, I_lt_t, I_lt_f, I_eq_t, I_eq_f, I_inb', I_ix', Int.toNat_natCast, decide_true, decide_false, Bool.not_false, Bool.not_true, if_true, if_false, wi_eq, wi_eq', wi_ne, wi_row, wi_2, N0, N1, N2, N3, N4, N5, N6, N7, N8, N9, N10, N11, N12, N13, N14, N15, N16, N17, N18, N19, N20, N21, N22, N23, N24, N25, N26, N27, N28, N29, N30, N31, N32, N33, N34, N35, N36, N37, N38, N39, N40, N41, N42, N43, N45, N48, N57, N59, N88, N89, N97, N99, N120, N121, N122, N179, N200, N255, N300, N400, N880, N900, N999, N1019, N50000000, N100000000, N1000000000, N2147483647, N2147483648, h1, q1, a1, b2]
  · by_cases d2 : k = t
    · rw [if_neg (fun q => q.2.1 d2)]
      unfold f_X4_visit_45
      simp (disch := omega) only [gd_t, bd_s, nm_W, nm_I, I_add, I_sub, I_mul, I_neg, I_le_t, I_le_f, I_lt_t, I_lt_f, I_eq_t, I_eq_f, I_inb', I_ix', Int.toNat_natCast, decide_true, decide_false, Bool.not_false, Bool.not_true, if_true, if_false, wi_eq, wi_eq', wi_ne, wi_row, wi_2, N0, N1, N2, N3, N4, N5, N6, N7, N8, N9, N10, N11, N12, N13, N14, N15, N16, N17, N18, N19, N20, N21, N22, N23, N24, N25, N26, N27, N28, N29, N30, N31, N32, N33, N34, N35, N36, N37, N38, N39, N40, N41, N42, N43, N45, N48, N57, N59, N88, N89, N97, N99, N120, N121, N122, N179, N200, N255, N300, N400, N880, N900, N999, N1019, N50000000, N100000000, N1000000000, N2147483647, N2147483648, h1, q1, a1, b2, b8, st]
    · by_cases d3 : t < u
      · rw [if_pos ⟨d1, d2, d3⟩]
        unfold f_X4_visit_45
        simp (disch := omega) only [gd_t, bd_s, nm_W, nm_I, I_add, I_sub, I_mul, I_neg, I_le_t, I_le_f, I_lt_t, I_lt_f, I_eq_t, I_eq_f, I_inb', I_ix', Int.toNat_natCast, decide_true, decide_false, Bool.not_false, Bool.not_true, if_true, if_false, wi_eq, wi_eq', wi_ne, wi_row, wi_2, N0, N1, N2, N3, N4, N5, N6, N7, N8, N9, N10, N11, N12, N13, N14, N15, N16, N17, N18, N19, N20, N21, N22, N23, N24, N25, N26, N27, N28, N29, N30, N31, N32, N33, N34, N35, N36, N37, N38, N39, N40, N41, N42, N43, N45, N48, N57, N59, N88, N89, N97, N99, N120, N121, N122, N179, N200, N255, N300, N400, N880, N900, N999, N1019, N50000000, N100000000, N1000000000, N2147483647, N2147483648, h1, q1, a1, b2, b8, st, b7, f_X4_visit_154]
      · rw [if_neg (fun q => d3 q.2.2)]
        unfold f_X4_visit_45
        simp (disch := omega) only [gd_t, bd_s, nm_W, nm_I, I_add, I_sub, I_mul, I_neg, I_le_t, I_le_f, I_lt_t, I_lt_f, I_eq_t, I_eq_f, I_inb', I_ix', Int.toNat_natCast, decide_true, decide_false, Bool.not_false, Bool.not_true, if_true, if_false, wi_eq, wi_eq', wi_ne, wi_row, wi_2, N0, N1, N2, N3, N4, N5, N6, N7, N8, N9, N10, N11, N12, N13, N14, N15, N16, N17, N18, N19, N20, N21, N22, N23, N24, N25, N26, N27, N28, N29, N30, N31, N32, N33, N34, N35, N36, N37, N38, N39, N40, N41, N42, N43, N45, N48, N57, N59, N88, N89, N97, N99, N120, N121, N122, N179, N200, N255, N300, N400, N880, N900, N999, N1019, N50000000, N100000000, N1000000000, N2147483647, N2147483648, h1, q1, a1, b2, b8, st, b7]
/-! the reference's -/
theorem g_at (v j : Nat) : ((48 : Int) + 8 * (v : Int) + (j : Int)).toNat = 48 + j + 8 * v := by omega
theorem g_skip {v : Nat} {τ : Wd} {h : Int} (v5 : v < 5) (h1 : τ.1 112 (48 + 8 * v) = I h) (hh : h = 0) : f_X7_goesAt (I (v : Int)) τ = some (I 0, τ) := by
  have w0 : ((48 : Int) + 8 * (v : Int) + 0).toNat = 48 + 8 * v := by omega
  unfold f_X7_goesAt f_X7_goesAt_64 f_X7_partAt
  simp (disch := omega) only [gd_t, bd_s, nm_W, nm_I, I_add, I_sub, I_mul, I_neg, I_le_t, I_le_f, I_lt_t, I_lt_f, I_eq_t, I_eq_f, I_inb', I_ix', Int.toNat_natCast, decide_true, decide_false, Bool.not_false, Bool.not_true, if_true, if_false, wi_eq, wi_eq', wi_ne, wi_row, wi_2, N0, N1, N2, N3, N4, N5, N6, N7, N8, N9, N10, N11, N12, N13, N14, N15, N16, N17, N18, N19, N20, N21, N22, N23, N24, N25, N26, N27, N28, N29, N30, N31, N32, N33, N34, N35, N36, N37, N38, N39, N40, N41, N42, N43, N45, N48, N57, N59, N88, N89, N97, N99, N120, N121, N122, N179, N200, N255, N300, N400, N880, N900, N999, N1019, N50000000, N100000000, N1000000000, N2147483647, N2147483648, w0, h1, f_X7_goesAt_198]
theorem g_wait {v : Nat} {τ : Wd} {h t u : Int} (v5 : v < 5) (h1 : τ.1 112 (48 + 8 * v) = I h) (hh : h = 1 ∨ h = 3) (r1 : τ.1 112 37 = I t) (h7 : τ.1 112 (53 + 8 * v) = I u) (t0 : 0 ≤ t) (t1 : t < u) (u1 : u ≤ 2000000) : f_X7_goesAt (I (v : Int)) τ = some (I 0, τ) := by
  have w0 : ((48 : Int) + 8 * (v : Int) + 0).toNat = 48 + 8 * v := by omega
  have w5 : ((48 : Int) + 8 * (v : Int) + 5).toNat = 53 + 8 * v := by omega
  have w37 : Int.toNat 37 = 37 := rfl
  unfold f_X7_goesAt f_X7_goesAt_64 f_X7_partAt
  rcases hh with hh | hh
  · simp (disch := omega) only [gd_t, bd_s, nm_W, nm_I, I_add, I_sub, I_mul, I_neg, I_le_t, I_le_f, I_lt_t, I_lt_f, I_eq_t, I_eq_f, I_inb', I_ix', Int.toNat_natCast, decide_true, decide_false, Bool.not_false, Bool.not_true, if_true, if_false, wi_eq, wi_eq', wi_ne, wi_row, wi_2, N0, N1, N2, N3, N4, N5, N6, N7, N8, N9, N10, N11, N12, N13, N14, N15, N16, N17, N18, N19, N20, N21, N22, N23, N24, N25, N26, N27, N28, N29, N30, N31, N32, N33, N34, N35, N36, N37, N38, N39, N40, N41, N42, N43, N45, N48, N57, N59, N88, N89, N97, N99, N120, N121, N122, N179, N200, N255, N300, N400, N880, N900, N999, N1019, N50000000, N100000000, N1000000000, N2147483647, N2147483648, w0, h1, w5, w37, h7, r1, f_X7_goesAt_198]
  · simp (disch := omega) only [gd_t, bd_s, nm_W, nm_I, I_add, I_sub, I_mul, I_neg, I_le_t, I_le_f, I_lt_t, I_lt_f, I_eq_t, I_eq_f, I_inb', I_ix', Int.toNat_natCast, decide_true, decide_false, Bool.not_false, Bool.not_true, if_true, if_false, wi_eq, wi_eq', wi_ne, wi_row, wi_2, N0, N1, N2, N3, N4, N5, N6, N7, N8, N9, N10, N11, N12, N13, N14, N15, N16, N17, N18, N19, N20, N21, N22, N23, N24, N25, N26, N27, N28, N29, N30, N31, N32, N33, N34, N35, N36, N37, N38, N39, N40, N41, N42, N43, N45, N48, N57, N59, N88, N89, N97, N99, N120, N121, N122, N179, N200, N255, N300, N400, N880, N900, N999, N1019, N50000000, N100000000, N1000000000, N2147483647, N2147483648, w0, h1, w5, w37, h7, r1, f_X7_goesAt_198]
theorem g_come {v : Nat} {τ : Wd} {t L : Int} (v5 : v < 5) (h1 : τ.1 112 (48 + 8 * v) = I 1) (r1 : τ.1 112 37 = I t) (h7 : τ.1 112 (53 + 8 * v) = I t) (m5 : τ.1 102 13 = I L) : f_X7_goesAt (I (v : Int)) τ = f_X7_goesAt_64 (I (v : Int)) (I (48 + 8 * (v : Int))) (wi (wi τ 112 (48 + 8 * v) (I 2)) 112 (53 + 8 * v) (I (t + L))) := by
  have w0 : ((48 : Int) + 8 * (v : Int) + 0).toNat = 48 + 8 * v := by omega
  have w5 : ((48 : Int) + 8 * (v : Int) + 5).toNat = 53 + 8 * v := by omega
  have w37 : Int.toNat 37 = 37 := rfl
  unfold f_X7_goesAt f_X7_partAt
  simp (disch := omega) only [gd_t, bd_s, nm_W, nm_I, I_add, I_sub, I_mul, I_neg, I_le_t, I_le_f, I_lt_t, I_lt_f, I_eq_t, I_eq_f, I_inb', I_ix', Int.toNat_natCast, decide_true, decide_false, Bool.not_false, Bool.not_true, if_true, if_false, wi_eq, wi_eq', wi_ne, wi_row, wi_2, N0, N1, N2, N3, N4, N5, N6, N7, N8, N9, N10, N11, N12, N13, N14, N15, N16, N17, N18, N19, N20, N21, N22, N23, N24, N25, N26, N27, N28, N29, N30, N31, N32, N33, N34, N35, N36, N37, N38, N39, N40, N41, N42, N43, N45, N48, N57, N59, N88, N89, N97, N99, N120, N121, N122, N179, N200, N255, N300, N400, N880, N900, N999, N1019, N50000000, N100000000, N1000000000, N2147483647, N2147483648, w0, h1, w5, w37, h7, r1, m5]
theorem g_rest {v : Nat} {τ : Wd} (v5 : v < 5) (h1 : τ.1 112 (48 + 8 * v) = I 2) : f_X7_goesAt (I (v : Int)) τ = f_X7_goesAt_64 (I (v : Int)) (I (48 + 8 * (v : Int))) τ := by
  have w0 : ((48 : Int) + 8 * (v : Int) + 0).toNat = 48 + 8 * v := by omega
  unfold f_X7_goesAt f_X7_partAt
  simp (disch := omega) only [gd_t, bd_s, nm_W, nm_I, I_add, I_sub, I_mul, I_neg, I_le_t, I_le_f, I_lt_t, I_lt_f, I_eq_t, I_eq_f, I_inb', I_ix', Int.toNat_natCast, decide_true, decide_false, Bool.not_false, Bool.not_true, if_true, if_false, wi_eq, wi_eq', wi_ne, wi_row, wi_2, N0, N1, N2, N3, N4, N5, N6, N7, N8, N9, N10, N11, N12, N13, N14, N15, N16, N17, N18, N19, N20, N21, N22, N23, N24, N25, N26, N27, N28, N29, N30, N31, N32, N33, N34, N35, N36, N37, N38, N39, N40, N41, N42, N43, N45, N48, N57, N59, N88, N89, N97, N99, N120, N121, N122, N179, N200, N255, N300, N400, N880, N900, N999, N1019, N50000000, N100000000, N1000000000, N2147483647, N2147483648, w0, h1]
theorem g_answ {v : Nat} {τ τ' : Wd} {t s g : Int} (v5 : v < 5) (h1 : τ.1 112 (48 + 8 * v) = I 3) (r1 : τ.1 112 37 = I t) (h7 : τ.1 112 (53 + 8 * v) = I t) (r2 : τ.1 112 38 = I s) (h3 : τ.1 112 (50 + 8 * v) = I g) (q1 : f_X7_clearsPart (I (v : Int)) (wi τ 112 38 (I (s - g))) = some (0, τ')) : f_X7_goesAt (I (v : Int)) τ = some (I 0, τ') := by
  have w0 : ((48 : Int) + 8 * (v : Int) + 0).toNat = 48 + 8 * v := by omega
  have w2 : ((48 : Int) + 8 * (v : Int) + 2).toNat = 50 + 8 * v := by omega
  have w5 : ((48 : Int) + 8 * (v : Int) + 5).toNat = 53 + 8 * v := by omega
  have w37 : Int.toNat 37 = 37 := rfl
  have w38 : Int.toNat 38 = 38 := rfl
  unfold f_X7_goesAt f_X7_goesAt_64 f_X7_partAt
  simp (disch := omega) only [gd_t, bd_s, nm_W, nm_I, I_add, I_sub, I_mul, I_neg, I_le_t, I_le_f, I_lt_t, I_lt_f, I_eq_t, I_eq_f, I_inb', I_ix', Int.toNat_natCast, decide_true, decide_false, Bool.not_false, Bool.not_true, if_true, if_false, wi_eq, wi_eq', wi_ne, wi_row, wi_2, N0, N1, N2, N3, N4, N5, N6, N7, N8, N9, N10, N11, N12, N13, N14, N15, N16, N17, N18, N19, N20, N21, N22, N23, N24, N25, N26, N27, N28, N29, N30, N31, N32, N33, N34, N35, N36, N37, N38, N39, N40, N41, N42, N43, N45, N48, N57, N59, N88, N89, N97, N99, N120, N121, N122, N179, N200, N255, N300, N400, N880, N900, N999, N1019, N50000000, N100000000, N1000000000, N2147483647, N2147483648, w0, h1, w5, w37, h7, r1, w38, w2, r2, h3, q1, f_X7_goesAt_198]
theorem g_buy {v : Nat} {τ τb : Wd} {t g n k u : Int} {nb : Int32} (v5 : v < 5) (h1 : τ.1 112 (48 + 8 * v) = I 2) (q2 : f_X7_buys (I (v : Int)) τ = some (nb, τb)) (a2 : τb.1 112 (50 + 8 * v) = I g) (e49 : τb.1 112 (49 + 8 * v) = I n) (e54 : τb.1 112 (54 + 8 * v) = I k) (tt : τb.1 112 37 = I t) (e53 : τb.1 112 (53 + 8 * v) = I u)
    (g0 : 0 ≤ g) (g1 : g ≤ n) (n1 : n ≤ 120) (k0 : -2 ≤ k) (k1 : k ≤ 2000000) (t0 : 0 ≤ t) (t1 : t ≤ 2000000) (u0 : t ≤ u) (u1 : u ≤ 2000000) : f_X7_goesAt_64 (I (v : Int)) (I (48 + 8 * (v : Int))) τ = if g ≠ n ∧ k ≠ t ∧ t < u then some (nb, τb) else f_X7_goesAt_138 (I (v : Int)) nb τb := by
  have w0 : ((48 : Int) + 8 * (v : Int) + 0).toNat = 48 + 8 * v := by omega
  have w1 : ((48 : Int) + 8 * (v : Int) + 1).toNat = 49 + 8 * v := by omega
  have w2 : ((48 : Int) + 8 * (v : Int) + 2).toNat = 50 + 8 * v := by omega
  have w5 : ((48 : Int) + 8 * (v : Int) + 5).toNat = 53 + 8 * v := by omega
  have w6 : ((48 : Int) + 8 * (v : Int) + 6).toNat = 54 + 8 * v := by omega
  have w37 : Int.toNat 37 = 37 := rfl
  by_cases d1 : g = n
  · rw [if_neg (fun q => q.1 d1)]
    unfold f_X7_goesAt_64
    simp (disch := omega) only [gd_t, bd_s, nm_W, nm_I, I_add, I_sub, I_mul, I_neg, I_le_t, I_le_f, I_lt_t, I_lt_f, I_eq_t, I_eq_f, I_inb', I_ix', Int.toNat_natCast, decide_true, decide_false, Bool.not_false, Bool.not_true, if_true, if_false, wi_eq, wi_eq', wi_ne, wi_row, wi_2, N0, N1, N2, N3, N4, N5, N6, N7, N8, N9, N10, N11, N12, N13, N14, N15, N16, N17, N18, N19, N20, N21, N22, N23, N24, N25, N26, N27, N28, N29, N30, N31, N32, N33, N34, N35, N36, N37, N38, N39, N40, N41, N42, N43, N45, N48, N57, N59, N88, N89, N97, N99, N120, N121, N122, N179, N200, N255, N300, N400, N880, N900, N999, N1019, N50000000, N100000000, N1000000000, N2147483647, N2147483648, w0, h1, q2, w2, w1, a2, e49]
  · by_cases d2 : k = t
    · rw [if_neg (fun q => q.2.1 d2)]
      unfold f_X7_goesAt_64
      simp (disch := omega) only [gd_t, bd_s, nm_W, nm_I, I_add, I_sub, I_mul, I_neg, I_le_t, I_le_f, I_lt_t, I_lt_f, I_eq_t, I_eq_f, I_inb', I_ix', Int.toNat_natCast, decide_true, decide_false, Bool.not_false, Bool.not_true, if_true, if_false, wi_eq, wi_eq', wi_ne, wi_row, wi_2, N0, N1, N2, N3, N4, N5, N6, N7, N8, N9, N10, N11, N12, N13, N14, N15, N16, N17, N18, N19, N20, N21, N22, N23, N24, N25, N26, N27, N28, N29, N30, N31, N32, N33, N34, N35, N36, N37, N38, N39, N40, N41, N42, N43, N45, N48, N57, N59, N88, N89, N97, N99, N120, N121, N122, N179, N200, N255, N300, N400, N880, N900, N999, N1019, N50000000, N100000000, N1000000000, N2147483647, N2147483648, w0, h1, q2, w2, w1, a2, e49, w6, w37, e54, tt]
    · by_cases d3 : t < u
      · rw [if_pos ⟨d1, d2, d3⟩]
        unfold f_X7_goesAt_64
        simp (disch := omega) only [gd_t, bd_s, nm_W, nm_I, I_add, I_sub, I_mul, I_neg, I_le_t, I_le_f, I_lt_t, I_lt_f, I_eq_t, I_eq_f, I_inb', I_ix', Int.toNat_natCast, decide_true, decide_false, Bool.not_false, Bool.not_true, if_true, if_false, wi_eq, wi_eq', wi_ne, wi_row, wi_2, N0, N1, N2, N3, N4, N5, N6, N7, N8, N9, N10, N11, N12, N13, N14, N15, N16, N17, N18, N19, N20, N21, N22, N23, N24, N25, N26, N27, N28, N29, N30, N31, N32, N33, N34, N35, N36, N37, N38, N39, N40, N41, N42, N43, N45, N48, N57, N59, N88, N89, N97, N99, N120, N121, N122, N179, N200, N255, N300, N400, N880, N900, N999, N1019, N50000000, N100000000, N1000000000, N2147483647, N2147483648, w0, h1, q2, w2, w1, a2, e49, w6, w37, e54, tt, w5, e53, f_X7_goesAt_143]
      · rw [if_neg (fun q => d3 q.2.2)]
        unfold f_X7_goesAt_64
        simp (disch := omega) only [gd_t, bd_s, nm_W, nm_I, I_add, I_sub, I_mul, I_neg, I_le_t, I_le_f, I_lt_t, I_lt_f, I_eq_t, I_eq_f, I_inb', I_ix', Int.toNat_natCast, decide_true, decide_false, Bool.not_false, Bool.not_true, if_true, if_false, wi_eq, wi_eq', wi_ne, wi_row, wi_2, N0, N1, N2, N3, N4, N5, N6, N7, N8, N9, N10, N11, N12, N13, N14, N15, N16, N17, N18, N19, N20, N21, N22, N23, N24, N25, N26, N27, N28, N29, N30, N31, N32, N33, N34, N35, N36, N37, N38, N39, N40, N41, N42, N43, N45, N48, N57, N59, N88, N89, N97, N99, N120, N121, N122, N179, N200, N255, N300, N400, N880, N900, N999, N1019, N50000000, N100000000, N1000000000, N2147483647, N2147483648, w0, h1, q2, w2, w1, a2, e49, w6, w37, e54, tt, w5, e53]
set_option maxHeartbeats 2000000 in
theorem fin_all {m r V v : Nat} {d : MD} {σ τ : Wd} {p L W : Int} {dl pl : Nat → Int} {b : Bool} {t s n g c : Int} (hm : 10 < m) (hmr : m + 12 < r) (hv : v < V) (hM : QM m σ τ V d p L W dl pl) (hR : QR r σ τ b t s) (hL : LR (r + 9) σ τ V d)
    (b2 : σ.1 (r + 2) v = I n) (e49 : τ.1 112 (49 + 8 * v) = I n) (a1 : σ.1 (r + 3) v = I g) (a2 : τ.1 112 (50 + 8 * v) = I g) (e51 : τ.1 112 (51 + 8 * v) = σ.1 (r + 5) v) (b6 : σ.1 (r + 6) v = I c) (e52 : τ.1 112 (52 + 8 * v) = I c) (c0 : 0 ≤ c) (c1 : c ≤ 999) (e55 : τ.1 112 (55 + 8 * v) = σ.1 (r + 4) v)
    (g0 : 0 ≤ g) (gn : g ≤ n) (n0 : 1 ≤ n) (n1 : n ≤ 120) :
    ∃ (σ' τ' : Wd), f_X4_finish r m (I (v : Int)) σ = some (0, σ') ∧ f_X7_endsPart (I (v : Int)) τ = some (0, τ') ∧ QM m σ' τ' V d p L W dl pl ∧ QR r σ' τ' b t s ∧ QP r σ' τ' t t v 3 n g ∧ LR (r + 9) σ' τ' V d ∧ σ'.1 r 3 = σ.1 r 3 ∧ VF m r v σ τ σ' τ' := by
  have v5 : v < 5 := Nat.lt_of_lt_of_le hv hM.1.1
  obtain ⟨D1, D2, D3, D4⟩ := hM.2.2.2.2.2.2.1 v hv
  obtain ⟨ow, xx, z1, z2⟩ := fin_ok (t := t) (D := dl v) hm hmr hv hM.1 hM.2.1 hM.2.2.1 b2 a1 e49 a2 e51 hR.2.1.1 hR.2.1.2.1 D1 D2 g0 gn n0 n1
  obtain ⟨σf, hσf⟩ : ∃ s, s = finC r v ow xx (I (t + dl v)) σ := ⟨_, rfl⟩
  obtain ⟨τf, hτf⟩ : ∃ s, s = finR v ow xx (I (t + dl v)) τ := ⟨_, rfl⟩
  rw [← hσf] at z1
  rw [← hτf] at z2
  have fc : ∀ j, j ≠ r → j ≠ r + 1 → j ≠ r + 4 → j ≠ r + 7 → σf.1 j = σ.1 j := fun j g1 g2 g3 g4 => by rw [hσf]; unfold finC; simp (disch := omega) only [wi_eq, wi_eq', wi_ne, wi_row, wi_2]
  have fi : ∀ i, i ≠ 4 → i ≠ 5 → σf.1 r i = σ.1 r i := fun i g1 g2 => by rw [hσf]; unfold finC; simp (disch := omega) only [wi_eq, wi_eq', wi_ne, wi_row, wi_2]
  have fw : ∀ j w, w ≠ v → j ≠ r → σf.1 j w = σ.1 j w := by
    intro j w hw hj
    by_cases j1 : j = r + 1
    · rw [hσf, j1]; unfold finC; simp (disch := omega) only [wi_eq, wi_eq', wi_ne, wi_row, wi_2]
    · by_cases j4 : j = r + 4
      · rw [hσf, j4]; unfold finC; simp (disch := omega) only [wi_eq, wi_eq', wi_ne, wi_row, wi_2]
      · by_cases j7 : j = r + 7
        · rw [hσf, j7]; unfold finC; simp (disch := omega) only [wi_eq, wi_eq', wi_ne, wi_row, wi_2]
        · rw [fc j hj j1 j4 j7]
  have ft : ∀ i, i ≠ 40 → i ≠ 41 → i ≠ 48 + 8 * v → i ≠ 53 + 8 * v → i ≠ 54 + 8 * v → τf.1 112 i = τ.1 112 i := fun i g1 g2 g3 g4 g5 => by rw [hτf]; unfold finR; simp (disch := omega) only [wi_eq, wi_eq', wi_ne, wi_row, wi_2]
  have fk : ∀ j, j ≠ 112 → τf.1 j = τ.1 j := fun j hj => by rw [hτf]; unfold finR; simp (disch := omega) only [wi_eq, wi_eq', wi_ne, wi_row, wi_2]
  have t0 := hR.2.1.2.2.1
  have t1 := hR.2.1.2.2.2
  have s0 := hR.2.2.1.2.2.1
  have s1 := hR.2.2.1.2.2.2
  refine ⟨σf, τf, z1, z2, ?_, ?_, ⟨⟨?_, ?_⟩, ⟨?_, ?_⟩, ⟨?_, ?_⟩, ?_, ⟨c, c0, c1, ?_, ?_⟩, ⟨t + dl v, -2, ?_, ?_, by omega, by omega, fun _ => by omega, ?_, by omega, by omega, fun q => absurd q (by omega), fun q => absurd q (by omega), fun q => absurd q (by omega)⟩, fun q => absurd q (by omega), n1, Or.inr (Or.inr (Or.inr ⟨rfl, n0, by omega, by omega⟩))⟩, ?_, ?_, ⟨⟨fun j g1 g2 => ?_, fun j g1 g2 w hw => ?_, ?_, ?_⟩, ⟨fk, fun i g1 g2 g3 => ?_, ?_⟩⟩⟩
  · exact QM_congr hM hM.1 (CV_rows hM.2.1 (fun j g1 g2 => fc j (by omega) (by omega) (by omega) (by omega))) (RV_cells hM.2.2.1 hM.1.1 (lv6 hM.1) (by rw [fk 102 (by decide)]) (fk 103 (by decide)) (fk 104 (by decide)) (fun i hi => ft i (by omega) (by omega) (by omega) (by omega) (by omega)))
      (fun i hi => by rw [fc m (by omega) (by omega) (by omega) (by omega)]) (fc _ (by omega) (by omega) (by omega) (by omega)) (fc _ (by omega) (by omega) (by omega) (by omega)) (by rw [fk 102 (by decide)]) (by rw [fk 102 (by decide)]) (fk 103 (by decide)) (ft 35 (by omega) (by omega) (by omega) (by omega) (by omega)) (fun w hw => ft _ (by omega) (by omega) (by omega) (by omega) (by omega))
  · obtain ⟨⟨y0, y0'⟩, ⟨y1, y1', -, -⟩, ⟨y2, y2', -, -⟩, y3, y4, y5, y6⟩ := hR
    refine ⟨⟨by rw [fi 0 (by decide) (by decide)]; exact y0, by rw [ft 36 (by omega) (by omega) (by omega) (by omega) (by omega)]; exact y0'⟩, ⟨by rw [fi 1 (by decide) (by decide)]; exact y1, by rw [ft 37 (by omega) (by omega) (by omega) (by omega) (by omega)]; exact y1', t0, t1⟩, ⟨by rw [fi 2 (by decide) (by decide)]; exact y2, by rw [ft 38 (by omega) (by omega) (by omega) (by omega) (by omega)]; exact y2', s0, s1⟩,
      by rw [fi 3 (by decide) (by decide), ft 39 (by omega) (by omega) (by omega) (by omega) (by omega)]; exact y3, ?_, ?_, by rw [fi 6 (by decide) (by decide), ft 42 (by omega) (by omega) (by omega) (by omega) (by omega)]; exact y6⟩
    · rw [hσf, hτf]
      unfold finC finR
      simp (disch := omega) only [wi_eq, wi_eq', wi_ne, wi_row, wi_2]
      rw [y4]
    · rw [hσf, hτf]
      unfold finC finR
      simp (disch := omega) only [wi_eq, wi_eq', wi_ne, wi_row, wi_2]
      rw [y5, e55]
  · rw [hσf]; unfold finC; simp (disch := omega) only [wi_eq, wi_eq', wi_ne, wi_row, wi_2]
  · rw [hτf]; unfold finR; simp (disch := omega) only [wi_eq, wi_eq', wi_ne, wi_row, wi_2]
  · rw [fc _ (by omega) (by omega) (by omega) (by omega)]; exact b2
  · rw [ft _ (by omega) (by omega) (by omega) (by omega) (by omega)]; exact e49
  · rw [fc _ (by omega) (by omega) (by omega) (by omega)]; exact a1
  · rw [ft _ (by omega) (by omega) (by omega) (by omega) (by omega)]; exact a2
  · rw [fc _ (by omega) (by omega) (by omega) (by omega), ft _ (by omega) (by omega) (by omega) (by omega) (by omega)]; exact e51
  · rw [fc _ (by omega) (by omega) (by omega) (by omega)]; exact b6
  · rw [ft _ (by omega) (by omega) (by omega) (by omega) (by omega)]; exact e52
  · rw [hσf]; unfold finC; simp (disch := omega) only [wi_eq, wi_eq', wi_ne, wi_row, wi_2]
  · rw [hτf]; unfold finR; simp (disch := omega) only [wi_eq, wi_eq', wi_ne, wi_row, wi_2]
  · rw [hτf]; unfold finR; simp (disch := omega) only [wi_eq, wi_eq', wi_ne, wi_row, wi_2]
  · exact LR_congr hL rfl rfl (fun j g1 g2 => fc j (by omega) (by omega) (by omega) (by omega)) (fun i hi => ft i (by omega) (by omega) (by omega) (by omega) (by omega))
  · exact fi 3 (by decide) (by decide)
  · exact fc j (by omega) (by omega) (by omega) (by omega)
  · exact fw j w hw (by omega)
  · exact fun i a b => fi i (by omega) (by omega)
  · rw [hσf]; rfl
  · exact ft i (by omega) (by omega) (by omega) (by omega) (by omega)
  · rw [hτf]; rfl
set_option maxHeartbeats 2000000 in
theorem rest_ok {m r V v : Nat} {d : MD} {σ τ : Wd} {p L W : Int} {dl pl : Nat → Int} {b : Bool} {t s n g c u k : Int} (hm : 10 < m) (hmr : m + 12 < r) (hv : v < V) (hM : QM m σ τ V d p L W dl pl) (hR : QR r σ τ b t s) (hL : LR (r + 9) σ τ V d)
    (h1 : σ.1 (r + 1) v = I 2) (h1' : τ.1 112 (48 + 8 * v) = I 2) (h2 : σ.1 (r + 2) v = I n) (h2' : τ.1 112 (49 + 8 * v) = I n) (h3 : σ.1 (r + 3) v = I g) (h3' : τ.1 112 (50 + 8 * v) = I g) (h4 : τ.1 112 (55 + 8 * v) = σ.1 (r + 4) v) (h5 : τ.1 112 (51 + 8 * v) = σ.1 (r + 5) v)
    (h6 : σ.1 (r + 6) v = I c) (h6' : τ.1 112 (52 + 8 * v) = I c) (c0 : 0 ≤ c) (c1 : c ≤ 999) (h7 : σ.1 (r + 7) v = I u) (h7' : τ.1 112 (53 + 8 * v) = I u) (u0 : t ≤ u) (u1 : u ≤ t + 20) (h8 : σ.1 (r + 8) v = I k) (h8' : τ.1 112 (54 + 8 * v) = I k) (k0 : k = -2 ∨ t ≤ k) (k1 : k ≤ t + 9)
    (g0 : 0 ≤ g) (gn : g ≤ n) (n0 : 1 ≤ n) (n1 : n ≤ 120) (ns : n ≤ s) :
    ∃ (σ' τ' : Wd) (d' : MD) (h' g' : Int) (nb : Int32), f_X4_visit_45 r m (I (v : Int)) σ = some (0, σ') ∧ f_X7_goesAt_64 (I (v : Int)) (I (48 + 8 * (v : Int))) τ = some (nb, τ') ∧ QM m σ' τ' V d' p L W dl pl ∧ QR r σ' τ' b t s ∧ QP r σ' τ' t t v h' n g' ∧ LR (r + 9) σ' τ' V d'
      ∧ (d'.1 = d.1 ∧ d'.lv = d.lv ∧ d'.pr = d.pr) ∧ h' ≠ 0 ∧ σ'.1 r 3 = σ.1 r 3 + nb ∧ VF m r v σ τ σ' τ' := by
  obtain ⟨m1, m2, m3, m4, m5, m6, m7, m8⟩ := hM
  obtain ⟨⟨r0, r0'⟩, ⟨r1, r1', t0, t1⟩, ⟨r2, r2', s0, s1⟩, r3, r4, r5, r6⟩ := hR
  have v5 : v < 5 := Nat.lt_of_lt_of_le hv m1.1
  obtain ⟨D1, D2, D3, D4⟩ := m7 v hv
  obtain ⟨σb, τb, d', pay, x, q1, q2, x0, x1, q3, q4, q5, q6, q7, ⟨a1, a2, a3, a4, a5, a6, a7, a8⟩, ⟨f1, f2, f3, f4⟩, ⟨f5, f6, f7⟩⟩ := buy_ok hm hmr hv m1 m2 m3 hL h2 h3 h6 h2' h3' h6' c0 c1 g0 gn n1
  have rb : ∀ j, r + 1 ≤ j → j ≤ r + 8 → j ≠ r + 3 → j ≠ r + 4 → σb.1 j = σ.1 j := fun j g1 g2 g3 g4 => f3 j (by omega) (by omega) g3 g4 (by omega)
  have VB : VF m r v σ τ σb τb := ⟨⟨fun j g1 g2 => f3 j g1 (by omega) (by omega) (by omega) (by omega), fun j g1 g2 w hw => by
      by_cases e3 : j = r + 3
      · rw [e3]; exact (f2 w hw).1
      · by_cases e4 : j = r + 4
        · rw [e4]; exact (f2 w hw).2
        · rw [rb j g1 g2 e3 e4], fun i a b => f1 i (by omega) (by omega), f4⟩, ⟨f5, fun i g1 g2 g3 => f6 i (by omega) g2 (by omega) (by omega) (by omega) (by omega), f7⟩⟩
  have MB : QM m σb τb V d' p L W dl pl := QM_congr ⟨m1, m2, m3, m4, m5, m6, m7, m8⟩ q3 q4 q5 (fun i hi => by rw [f3 m (by omega) (by omega) (by omega) (by omega) (by omega)]) (f3 _ (by omega) (by omega) (by omega) (by omega) (by omega)) (f3 _ (by omega) (by omega) (by omega) (by omega) (by omega)) (by rw [f5 102 (by decide)]) (by rw [f5 102 (by decide)]) (f5 103 (by decide)) (f6 35 (by omega) (by omega) (by omega) (by omega) (by omega) (by omega)) (fun w hw => f6 _ (by omega) (by omega) (by omega) (by omega) (by omega) (by omega))
  have RB : QR r σb τb b t s := ⟨⟨by rw [f1 0 (by decide) (by decide)]; exact r0, by rw [f6 36 (by omega) (by omega) (by omega) (by omega) (by omega) (by omega)]; exact r0'⟩, ⟨by rw [f1 1 (by decide) (by decide)]; exact r1, by rw [f6 37 (by omega) (by omega) (by omega) (by omega) (by omega) (by omega)]; exact r1', t0, t1⟩, ⟨by rw [f1 2 (by decide) (by decide)]; exact r2, by rw [f6 38 (by omega) (by omega) (by omega) (by omega) (by omega) (by omega)]; exact r2', s0, s1⟩,
    by rw [a3, a4, r3], by rw [a6, a8, r4], by rw [f1 5 (by decide) (by decide), f6 41 (by omega) (by omega) (by omega) (by omega) (by omega) (by omega)]; exact r5, by rw [f1 6 (by decide) (by decide), f6 42 (by omega) (by omega) (by omega) (by omega) (by omega) (by omega)]; exact r6⟩
  have b1 : σb.1 (r + 1) v = I 2 := by rw [rb _ (by omega) (by omega) (by omega) (by omega)]; exact h1
  have b2 : σb.1 (r + 2) v = I n := by rw [rb _ (by omega) (by omega) (by omega) (by omega)]; exact h2
  have b5 : σb.1 (r + 5) v = σ.1 (r + 5) v := by rw [rb _ (by omega) (by omega) (by omega) (by omega)]
  have b6 : σb.1 (r + 6) v = I c := by rw [rb _ (by omega) (by omega) (by omega) (by omega)]; exact h6
  have b7 : σb.1 (r + 7) v = I u := by rw [rb _ (by omega) (by omega) (by omega) (by omega)]; exact h7
  have b8 : σb.1 (r + 8) v = I k := by rw [rb _ (by omega) (by omega) (by omega) (by omega)]; exact h8
  have e48 : τb.1 112 (48 + 8 * v) = I 2 := by rw [f6 _ (by omega) (by omega) (by omega) (by omega) (by omega) (by omega)]; exact h1'
  have e49 : τb.1 112 (49 + 8 * v) = I n := by rw [f6 _ (by omega) (by omega) (by omega) (by omega) (by omega) (by omega)]; exact h2'
  have e51 : τb.1 112 (51 + 8 * v) = σb.1 (r + 5) v := by rw [f6 _ (by omega) (by omega) (by omega) (by omega) (by omega) (by omega), b5]; exact h5
  have e52 : τb.1 112 (52 + 8 * v) = I c := by rw [f6 _ (by omega) (by omega) (by omega) (by omega) (by omega) (by omega)]; exact h6'
  have e53 : τb.1 112 (53 + 8 * v) = I u := by rw [f6 _ (by omega) (by omega) (by omega) (by omega) (by omega) (by omega)]; exact h7'
  have e54 : τb.1 112 (54 + 8 * v) = I k := by rw [f6 _ (by omega) (by omega) (by omega) (by omega) (by omega) (by omega)]; exact h8'
  have e55 : τb.1 112 (55 + 8 * v) = σb.1 (r + 4) v := by rw [a7, a5, h4]
  have st := RB.2.1.1
  have tt := RB.2.1.2.1
  by_cases cs : g + x ≠ n ∧ k ≠ t ∧ t < u
  · obtain ⟨cs1, cs2, cs3⟩ := cs
    refine ⟨σb, τb, d', 2, g + x, I x, ?_, ?_, MB, RB, ⟨⟨b1, e48⟩, ⟨b2, e49⟩, ⟨a1, a2⟩, e51, ⟨c, c0, c1, b6, e52⟩, ⟨u, k, b7, e53, by omega, u1, fun _ => cs3, e54, by omega, k1, fun _ => ⟨b8, by omega⟩, fun q => absurd q (by decide), fun q => absurd q (by decide)⟩, fun _ => e55, n1, Or.inr (Or.inr (Or.inl ⟨rfl, n0, by omega, by omega⟩))⟩, q6, q7, by decide, a3, VB⟩
    · rw [v_buy v5 h1 q1 a1 b2 b8 st b7 (by omega) (by omega) n1 (by omega) (by omega) t0 (by omega) u0 (by omega), if_pos ⟨cs1, cs2, cs3⟩]
    · rw [g_buy v5 h1' q2 a2 e49 e54 tt e53 (by omega) (by omega) n1 (by omega) (by omega) t0 (by omega) u0 (by omega), if_pos ⟨cs1, cs2, cs3⟩]
  · obtain ⟨σf, τf, z1, z2, z3, z4, z5, z6, z7, z8⟩ := fin_all (g := g + x) (c := c) hm hmr hv MB RB q6 b2 e49 a1 a2 e51 b6 e52 c0 c1 e55 (by omega) (by omega) n0 n1
    refine ⟨σf, τf, d', 3, g + x, I x, ?_, ?_, z3, z4, z5, z6, q7, by decide, by rw [z7]; exact a3, VF_trans VB z8⟩
    · rw [v_buy v5 h1 q1 a1 b2 b8 st b7 (by omega) (by omega) n1 (by omega) (by omega) t0 (by omega) u0 (by omega), if_neg cs]
      unfold f_X4_visit_102 f_X4_visit_154
      rw [z1]
      rfl
    · rw [g_buy v5 h1' q2 a2 e49 e54 tt e53 (by omega) (by omega) n1 (by omega) (by omega) t0 (by omega) u0 (by omega), if_neg cs]
      unfold f_X7_goesAt_138 f_X7_goesAt_143
      rw [z2]
      rfl
set_option maxHeartbeats 4000000 in
theorem answ_ok {m r V v : Nat} {d : MD} {σ τ : Wd} {p L W : Int} {dl pl : Nat → Int} {b : Bool} {t s n g : Int} (hm : 10 < m) (hmr : m + 12 < r) (hv : v < V) (hM : QM m σ τ V d p L W dl pl) (hR : QR r σ τ b t s) (hL : LR (r + 9) σ τ V d)
    (h1 : σ.1 (r + 1) v = I 3) (h1' : τ.1 112 (48 + 8 * v) = I 3) (h3 : σ.1 (r + 3) v = I g) (h3' : τ.1 112 (50 + 8 * v) = I g) (h7 : σ.1 (r + 7) v = I t) (h7' : τ.1 112 (53 + 8 * v) = I t) (g0 : 0 ≤ g) (gn : g ≤ n) (ns : n ≤ s) :
    ∃ (σ' τ' : Wd), f_X4_visit r m (I (v : Int)) σ = some (0, σ') ∧ f_X7_goesAt (I (v : Int)) τ = some (I 0, τ') ∧ QM m σ' τ' V d p L W dl pl ∧ QR r σ' τ' b t (s - g) ∧ QP r σ' τ' t t v 0 0 0 ∧ LR (r + 9) σ' τ' V d ∧ σ'.1 r 3 = σ.1 r 3 ∧ VF m r v σ τ σ' τ' := by
  obtain ⟨m1, m2, m3, m4, m5, m6, m7, m8⟩ := hM
  obtain ⟨⟨r0, r0'⟩, ⟨r1, r1', t0, t1⟩, ⟨r2, r2', s0, s1⟩, r3, r4, r5, r6⟩ := hR
  have v5 : v < 5 := Nat.lt_of_lt_of_le hv m1.1
  obtain ⟨τ', q1, q2, q3, q4, q5, q6, q7⟩ := rClr (τ := wi τ 112 38 (I (s - g))) v5
  obtain ⟨σ', hσ⟩ : ∃ s', s' = dropW r v (wi σ r 2 (I (s - g))) := ⟨_, rfl⟩
  obtain ⟨z1, z2, z3, z4, z5, z6, z7, z8⟩ := drop_at (r := r) (v := v) (σ := wi σ r 2 (I (s - g)))
  rw [← hσ] at z1 z2 z3 z4 z5 z6 z7 z8
  have fc : ∀ j, j ≠ r → j < r + 1 ∨ r + 8 < j → σ'.1 j = σ.1 j := fun j g1 g2 => by rw [hσ, drop_row g2, wi_row g1]
  have fi : ∀ i, i ≠ 2 → σ'.1 r i = σ.1 r i := fun i g1 => by rw [hσ, drop_row (by omega), wi_ne g1]
  have ft : ∀ i, i ≠ 38 → i < 48 + 8 * v ∨ 56 + 8 * v ≤ i → τ'.1 112 i = τ.1 112 i := fun i g1 g2 => by rw [q5 i g2, wi_ne g1]
  have fk : ∀ j, j ≠ 112 → τ'.1 j = τ.1 j := fun j hj => by rw [q6 j hj, wi_row hj]
  have ce : ∀ i, i < 8 → i ≠ 5 → i ≠ 6 → τ'.1 112 (48 + i + 8 * v) = I 0 := fun i g1 g2 g3 => by rw [show 48 + i + 8 * v = 48 + 8 * v + i from by omega]; exact q2 i g1 g2 g3
  refine ⟨σ', τ', ?_, ?_, QM_congr ⟨m1, m2, m3, m4, m5, m6, m7, m8⟩ m1 (CV_rows m2 (fun j g1 g2 => fc j (by omega) (by omega))) (RV_cells m3 m1.1 (lv6 m1) (by rw [fk 102 (by decide)]) (fk 103 (by decide)) (fk 104 (by decide)) (fun i hi => ft i (by omega) (by omega)))
      (fun i hi => by rw [fc m (by omega) (by omega)]) (fc _ (by omega) (by omega)) (fc _ (by omega) (by omega)) (by rw [fk 102 (by decide)]) (by rw [fk 102 (by decide)]) (fk 103 (by decide)) (ft 35 (by omega) (by omega)) (fun w hw => ft _ (by omega) (by omega)),
    ⟨⟨by rw [fi 0 (by decide)]; exact r0, by rw [ft 36 (by omega) (by omega)]; exact r0'⟩, ⟨by rw [fi 1 (by decide)]; exact r1, by rw [ft 37 (by omega) (by omega)]; exact r1', t0, t1⟩, ⟨by rw [hσ, drop_row (by omega), wi_eq], by rw [q5 38 (by omega), wi_eq], by omega, by omega⟩, by rw [fi 3 (by decide), ft 39 (by omega) (by omega)]; exact r3, by rw [fi 4 (by decide), ft 40 (by omega) (by omega)]; exact r4, by rw [fi 5 (by decide), ft 41 (by omega) (by omega)]; exact r5, by rw [fi 6 (by decide), ft 42 (by omega) (by omega)]; exact r6⟩,
    ⟨⟨z1, ce 0 (by decide) (by decide) (by decide)⟩, ⟨z2, ce 1 (by decide) (by decide) (by decide)⟩, ⟨z3, ce 2 (by decide) (by decide) (by decide)⟩, by rw [z5]; exact ce 3 (by decide) (by decide) (by decide), ⟨0, by omega, by omega, z6, ce 4 (by decide) (by decide) (by decide)⟩, ⟨-2, -2, z7, by rw [show 53 + 8 * v = 48 + 8 * v + 5 from by omega]; exact q3, by omega, by omega, fun q => absurd rfl q, by rw [show 54 + 8 * v = 48 + 8 * v + 6 from by omega]; exact q4, by omega, by omega, fun q => absurd q (by omega), fun q => absurd q (by omega), fun _ => ⟨z8, rfl⟩⟩, fun q => absurd q (by omega), by omega, Or.inl ⟨rfl, rfl, rfl⟩⟩,
    LR_congr hL rfl rfl (fun j g1 g2 => fc j (by omega) (by omega)) (fun i hi => ft i (by omega) (by omega)), fi 3 (by decide), ⟨⟨fun j g1 g2 => fc j (by omega) (by omega), fun j g1 g2 w hw => ?_, fun i a b => fi i (by omega), by rw [hσ]; rfl⟩, ⟨fk, fun i g1 g2 g3 => ft i (by omega) (by omega), by rw [q7, wi_2]⟩⟩⟩
  · rw [hσ]
    exact v_answ v5 h1 r1 h7 t0 (by omega) r2 h3
  · exact g_answ v5 h1' r1' h7' r2' h3' q1
  · rw [hσ, drop_ne hw, wi_row (by omega)]
set_option maxHeartbeats 8000000 in
theorem visit_ok {m r V v : Nat} {d : MD} {σ τ : Wd} {p L W : Int} {dl pl : Nat → Int} {b : Bool} {t s h n g : Int} (hm : 10 < m) (hmr : m + 12 < r) (hv : v < V) (hM : QM m σ τ V d p L W dl pl) (hR : QR r σ τ b t s) (hL : LR (r + 9) σ τ V d) (hP : QP r σ τ (t - 1) t v h n g) (ns : n ≤ s) :
    ∃ (σ' τ' : Wd) (d' : MD) (s' h' n' g' : Int) (nb : Int32), f_X4_visit r m (I (v : Int)) σ = some (0, σ') ∧ f_X7_goesAt (I (v : Int)) τ = some (nb, τ') ∧ QM m σ' τ' V d' p L W dl pl ∧ QR r σ' τ' b t s' ∧ QP r σ' τ' t t v h' n' g' ∧ LR (r + 9) σ' τ' V d'
      ∧ (d'.1 = d.1 ∧ d'.lv = d.lv ∧ d'.pr = d.pr) ∧ (0 ≤ n' ∧ s - n ≤ s' - n') ∧ (h = 0 → h' = 0 ∧ s' = s) ∧ σ'.1 r 3 = σ.1 r 3 + nb ∧ VF m r v σ τ σ' τ' := by
  obtain ⟨⟨h1, h1'⟩, ⟨h2, h2'⟩, ⟨h3, h3'⟩, h5, ⟨c, c0, c1, h6, h6'⟩, ⟨u, k, h7, h7', u0, u1, u2, h8', k0, k1, k2, k3, k4⟩, h4, n1, hcs⟩ := hP
  have hM' := hM
  have hR' := hR
  obtain ⟨m1, m2, m3, m4, ⟨m5, m5', L0, L1, L2⟩, m6, m7, m8⟩ := hM'
  obtain ⟨⟨r0, r0'⟩, ⟨r1, r1', t0, t1⟩, ⟨r2, r2', s0, s1⟩, r3, r4, r5, r6⟩ := hR'
  have v5 : v < 5 := Nat.lt_of_lt_of_le hv m1.1
  have L3 := L2 (by omega)
  rcases hcs with ⟨e, en, eg⟩ | ⟨e, n0, eg⟩ | ⟨e, n0, g0, g1⟩ | ⟨e, n0, g0, g1⟩
  · -- no part
    subst e
    refine ⟨σ, τ, d, s, 0, n, g, I 0, ?_, ?_, hM, hR, ⟨⟨h1, h1'⟩, ⟨h2, h2'⟩, ⟨h3, h3'⟩, h5, ⟨c, c0, c1, h6, h6'⟩, ⟨u, k, h7, h7', u0, u1, fun q => absurd rfl q, h8', k0, k1, fun q => absurd q (by omega), fun q => absurd q (by omega), k4⟩, h4, n1, Or.inl ⟨rfl, en, eg⟩⟩, hL, ⟨rfl, rfl, rfl⟩, ⟨by omega, by omega⟩, fun _ => ⟨rfl, rfl⟩, (addI0 _).symm, VF_refl⟩
    · exact v_skip v5 h1 rfl
    · exact g_skip v5 h1' rfl
  · -- coming
    subst e
    have u3 := u2 (by decide)
    obtain ⟨h8, k5⟩ := k2 (Or.inl rfl)
    have k6 := (k3 rfl).1
    by_cases cu : u = t
    · obtain ⟨σ1, hσ1⟩ : ∃ s, s = wi (wi σ (r + 1) v (I 2)) (r + 7) v (I (t + L)) := ⟨_, rfl⟩
      obtain ⟨τ1, hτ1⟩ : ∃ s, s = wi (wi τ 112 (48 + 8 * v) (I 2)) 112 (53 + 8 * v) (I (t + L)) := ⟨_, rfl⟩
      have fc : ∀ j, j ≠ r + 1 → j ≠ r + 7 → σ1.1 j = σ.1 j := fun j g1 g2 => by rw [hσ1]; simp (disch := omega) only [wi_eq, wi_eq', wi_ne, wi_row, wi_2]
      have ft : ∀ i, i ≠ 48 + 8 * v → i ≠ 53 + 8 * v → τ1.1 112 i = τ.1 112 i := fun i g1 g2 => by rw [hτ1]; simp (disch := omega) only [wi_eq, wi_eq', wi_ne, wi_row, wi_2]
      have fk : ∀ j, j ≠ 112 → τ1.1 j = τ.1 j := fun j hj => by rw [hτ1]; simp (disch := omega) only [wi_eq, wi_eq', wi_ne, wi_row, wi_2]
      have V1 : VF m r v σ τ σ1 τ1 := ⟨⟨fun j g1 g2 => fc j (by omega) (by omega), fun j g1 g2 w hw => by
          by_cases j1 : j = r + 1
          · rw [hσ1, j1]; simp (disch := omega) only [wi_eq, wi_eq', wi_ne, wi_row, wi_2]
          · by_cases j7 : j = r + 7
            · rw [hσ1, j7]; simp (disch := omega) only [wi_eq, wi_eq', wi_ne, wi_row, wi_2]
            · rw [fc j j1 j7], fun i _ _ => by rw [fc r (by omega) (by omega)], by rw [hσ1]; rfl⟩, ⟨fk, fun i g1 g2 g3 => ft i (by omega) (by omega), by rw [hτ1]; rfl⟩⟩
      have M1 : QM m σ1 τ1 V d p L W dl pl := QM_congr hM m1 (CV_rows m2 (fun j g1 g2 => fc j (by omega) (by omega))) (RV_cells m3 m1.1 (lv6 m1) (by rw [fk 102 (by decide)]) (fk 103 (by decide)) (fk 104 (by decide)) (fun i hi => ft i (by omega) (by omega)))
        (fun i hi => by rw [fc m (by omega) (by omega)]) (fc _ (by omega) (by omega)) (fc _ (by omega) (by omega)) (by rw [fk 102 (by decide)]) (by rw [fk 102 (by decide)]) (fk 103 (by decide)) (ft 35 (by omega) (by omega)) (fun w hw => ft _ (by omega) (by omega))
      have R1 : QR r σ1 τ1 b t s := by
        unfold QR
        rw [fc r (by omega) (by omega), ft 36 (by omega) (by omega), ft 37 (by omega) (by omega), ft 38 (by omega) (by omega), ft 39 (by omega) (by omega), ft 40 (by omega) (by omega), ft 41 (by omega) (by omega), ft 42 (by omega) (by omega)]
        exact hR
      obtain ⟨σ', τ', d', h', g', nb, q1, q2, q3, q4, q5, q6, q7, q8, q9, q10⟩ := rest_ok (c := c) (u := t + L) (k := k) hm hmr hv M1 R1 (LR_congr hL rfl rfl (fun j g1 g2 => fc j (by omega) (by omega)) (fun i hi => ft i (by omega) (by omega)))
        (by rw [hσ1]; simp (disch := omega) only [wi_eq, wi_eq', wi_ne, wi_row, wi_2]) (by rw [hτ1]; simp (disch := omega) only [wi_eq, wi_eq', wi_ne, wi_row, wi_2]) (by rw [fc _ (by omega) (by omega)]; exact h2) (by rw [ft _ (by omega) (by omega)]; exact h2') (by rw [fc _ (by omega) (by omega)]; exact h3) (by rw [ft _ (by omega) (by omega)]; exact h3') (by rw [fc _ (by omega) (by omega), ft _ (by omega) (by omega)]; exact h4 (Or.inl rfl)) (by rw [fc _ (by omega) (by omega), ft _ (by omega) (by omega)]; exact h5)
        (by rw [fc _ (by omega) (by omega)]; exact h6) (by rw [ft _ (by omega) (by omega)]; exact h6') c0 c1 (by rw [hσ1]; simp (disch := omega) only [wi_eq, wi_eq', wi_ne, wi_row, wi_2]) (by rw [hτ1]; simp (disch := omega) only [wi_eq, wi_eq', wi_ne, wi_row, wi_2]) (by omega) (by omega) (by rw [fc _ (by omega) (by omega)]; exact h8) (by rw [ft _ (by omega) (by omega)]; exact h8') (by omega) k1 (by omega) (by omega) n0 n1 ns
      refine ⟨σ', τ', d', s, h', n, g', nb, ?_, ?_, q3, q4, q5, q6, q7, ⟨by omega, by omega⟩, fun q => absurd q (by decide), by rw [q9, fc r (by omega) (by omega)], VF_trans V1 q10⟩
      · rw [← q1, hσ1]
        exact v_come v5 hmr h1 r1 (by rw [← cu]; exact h7) t0 (by omega) m5
      · rw [← q2, hτ1]
        exact g_come v5 h1' r1' (by rw [← cu]; exact h7') m5'
    · refine ⟨σ, τ, d, s, 1, n, g, I 0, ?_, ?_, hM, hR, ⟨⟨h1, h1'⟩, ⟨h2, h2'⟩, ⟨h3, h3'⟩, h5, ⟨c, c0, c1, h6, h6'⟩, ⟨u, k, h7, h7', u0, u1, fun _ => by omega, h8', k0, k1, fun _ => ⟨h8, by omega⟩, k3, fun q => absurd q (by decide)⟩, h4, n1, Or.inr (Or.inl ⟨rfl, n0, eg⟩)⟩, hL, ⟨rfl, rfl, rfl⟩, ⟨by omega, by omega⟩, fun q => absurd q (by decide), (addI0 _).symm, VF_refl⟩
      · exact v_wait v5 h1 (by omega) r1 h7 t0 (by omega) (by omega)
      · exact g_wait v5 h1' (by omega) r1' h7' t0 (by omega) (by omega)
  · -- resting
    subst e
    have u3 := u2 (by decide)
    obtain ⟨h8, k5⟩ := k2 (Or.inr rfl)
    obtain ⟨σ', τ', d', h', g', nb, q1, q2, q3, q4, q5, q6, q7, q8, q9, q10⟩ := rest_ok (c := c) (u := u) (k := k) hm hmr hv hM hR hL h1 h1' h2 h2' h3 h3' (h4 (Or.inr rfl)) h5 h6 h6' c0 c1 h7 h7' (by omega) u1 h8 h8' (by omega) k1 g0 (by omega) n0 n1 ns
    refine ⟨σ', τ', d', s, h', n, g', nb, ?_, ?_, q3, q4, q5, q6, q7, ⟨by omega, by omega⟩, fun q => absurd q (by decide), q9, q10⟩
    · rw [← q1]
      exact v_rest v5 h1
    · rw [← q2]
      exact g_rest v5 h1'
  · -- answering
    subst e
    have u3 := u2 (by decide)
    by_cases cu : u = t
    · subst cu
      obtain ⟨σ', τ', q1, q2, q3, q4, q5, q6, q7, q8⟩ := answ_ok hm hmr hv hM hR hL h1 h1' h3 h3' h7 h7' g0 g1 ns
      exact ⟨σ', τ', d, s - g, 0, 0, 0, I 0, q1, q2, q3, q4, q5, q6, ⟨rfl, rfl, rfl⟩, ⟨by omega, by omega⟩, fun q => absurd q (by decide), by rw [q7, addI0], q8⟩
    · refine ⟨σ, τ, d, s, 3, n, g, I 0, ?_, ?_, hM, hR, ⟨⟨h1, h1'⟩, ⟨h2, h2'⟩, ⟨h3, h3'⟩, h5, ⟨c, c0, c1, h6, h6'⟩, ⟨u, k, h7, h7', u0, u1, fun _ => by omega, h8', k0, k1, fun q => absurd q (by omega), fun q => absurd q (by decide), fun q => absurd q (by decide)⟩, h4, n1, Or.inr (Or.inr (Or.inr ⟨rfl, n0, g0, g1⟩))⟩, hL, ⟨rfl, rfl, rfl⟩, ⟨by omega, by omega⟩, fun q => absurd q (by decide), (addI0 _).symm, VF_refl⟩
      · exact v_wait v5 h1 (by omega) r1 h7 t0 (by omega) (by omega)
      · exact g_wait v5 h1' (by omega) r1' h7' t0 (by omega) (by omega)
