/-! PURE: level, entry -/
theorem c_isLevel {σ : Wd} {m : Nat} {v k a l : Int} (hm : σ.2.2 0 4 = m) (bm : bM m = true) (e1 : f_X6_isVenue (I v) σ = some (I a, σ)) (ha : 0 ≤ a ∧ a ≤ 1) (hk : R k) (v0 : a = 1 → 0 ≤ v ∧ v < 5) (h6 : a = 1 → σ.1 (m + 6) v.toNat = I l) (hl : 0 ≤ l ∧ l ≤ 6) : f_X6_isLevel (I v) (I k) σ = some (I (bn (decide (a = 1 ∧ 0 ≤ k ∧ k < l))), σ) := by
  unfold R at hk
  by_cases c1 : a = 0
  · rw [decide_eq_false (by omega), bn_f]
    unfold f_X6_isLevel f_X6_isLevel_29 f_X6_isLevel_30
    simp (disch := omega) only [gd_t, bd_s, nm_W, nm_I, I_add, I_sub, I_mul, I_neg, I_le_t, I_le_f, I_lt_t, I_lt_f, I_eq_t, I_eq_f, I_inb', I_ix', Int.toNat_natCast, decide_true, decide_false, Bool.not_false, Bool.not_true, if_true, if_false, wi_eq, wi_eq', wi_ne, wi_row, wi_2, N0, N1, N2, N3, N4, N5, N6, N7, N8, N9, N10, N11, N12, N13, N14, N15, N16, N17, N18, N19, N20, N21, N22, N23, N24, N25, N26, N27, N28, N29, N30, N31, N32, N33, N34, N35, N36, N37, N38, N39, N40, N41, N42, N43, N45, N48, N57, N59, N88, N89, N97, N99, N120, N121, N122, N179, N200, N255, N300, N400, N880, N900, N999, N1019, N50000000, N100000000, N1000000000, N2147483647, N2147483648, e1, isb_0]
  · have a1 : a = 1 := by omega
    have v0 := v0 a1
    have h6 := h6 a1
    by_cases c2 : k < 0
    · rw [decide_eq_false (by omega), bn_f]
      unfold f_X6_isLevel f_X6_isLevel_29 f_X6_isLevel_30
      simp (disch := omega) only [gd_t, bd_s, nm_W, nm_I, I_add, I_sub, I_mul, I_neg, I_le_t, I_le_f, I_lt_t, I_lt_f, I_eq_t, I_eq_f, I_inb', I_ix', Int.toNat_natCast, decide_true, decide_false, Bool.not_false, Bool.not_true, if_true, if_false, wi_eq, wi_eq', wi_ne, wi_row, wi_2, N0, N1, N2, N3, N4, N5, N6, N7, N8, N9, N10, N11, N12, N13, N14, N15, N16, N17, N18, N19, N20, N21, N22, N23, N24, N25, N26, N27, N28, N29, N30, N31, N32, N33, N34, N35, N36, N37, N38, N39, N40, N41, N42, N43, N45, N48, N57, N59, N88, N89, N97, N99, N120, N121, N122, N179, N200, N255, N300, N400, N880, N900, N999, N1019, N50000000, N100000000, N1000000000, N2147483647, N2147483648, e1, isb_0]
    · by_cases c3 : l ≤ k
      · rw [decide_eq_false (by omega), bn_f]
        unfold f_X6_isLevel f_X6_isLevel_29 f_X6_isLevel_30
        simp (disch := omega) only [gd_t, bd_s, nm_W, nm_I, I_add, I_sub, I_mul, I_neg, I_le_t, I_le_f, I_lt_t, I_lt_f, I_eq_t, I_eq_f, I_inb', I_ix', Int.toNat_natCast, decide_true, decide_false, Bool.not_false, Bool.not_true, if_true, if_false, wi_eq, wi_eq', wi_ne, wi_row, wi_2, N0, N1, N2, N3, N4, N5, N6, N7, N8, N9, N10, N11, N12, N13, N14, N15, N16, N17, N18, N19, N20, N21, N22, N23, N24, N25, N26, N27, N28, N29, N30, N31, N32, N33, N34, N35, N36, N37, N38, N39, N40, N41, N42, N43, N45, N48, N57, N59, N88, N89, N97, N99, N120, N121, N122, N179, N200, N255, N300, N400, N880, N900, N999, N1019, N50000000, N100000000, N1000000000, N2147483647, N2147483648, e1, hm, bm, h6, isb_0]
      · rw [decide_eq_true (by omega), bn_t]
        unfold f_X6_isLevel f_X6_isLevel_30
        simp (disch := omega) only [gd_t, bd_s, nm_W, nm_I, I_add, I_sub, I_mul, I_neg, I_le_t, I_le_f, I_lt_t, I_lt_f, I_eq_t, I_eq_f, I_inb', I_ix', Int.toNat_natCast, decide_true, decide_false, Bool.not_false, Bool.not_true, if_true, if_false, wi_eq, wi_eq', wi_ne, wi_row, wi_2, N0, N1, N2, N3, N4, N5, N6, N7, N8, N9, N10, N11, N12, N13, N14, N15, N16, N17, N18, N19, N20, N21, N22, N23, N24, N25, N26, N27, N28, N29, N30, N31, N32, N33, N34, N35, N36, N37, N38, N39, N40, N41, N42, N43, N45, N48, N57, N59, N88, N89, N97, N99, N120, N121, N122, N179, N200, N255, N300, N400, N880, N900, N999, N1019, N50000000, N100000000, N1000000000, N2147483647, N2147483648, e1, hm, bm, h6, isb_1]
theorem c_level {σ : Wd} {v k w a c : Int} (e1 : f_X6_isLevel (I v) (I k) σ = some (I a, σ)) (e2 : f_X6_within (I w) (I 0) (I 1) σ = some (I c, σ)) (ha : 0 ≤ a ∧ a ≤ 1) (hc : 0 ≤ c ∧ c ≤ 1) : f_X6_level (I v) (I k) (I w) σ = f_X6_level_24 (I v) (I k) (I w) (I (a * c)) σ := by
  unfold f_X6_level f_X6_level_23
  by_cases c1 : a = 0
  · simp (disch := omega) only [gd_t, bd_s, nm_W, nm_I, I_add, I_sub, I_mul, I_neg, I_le_t, I_le_f, I_lt_t, I_lt_f, I_eq_t, I_eq_f, I_inb', I_ix', Int.toNat_natCast, decide_true, decide_false, Bool.not_false, Bool.not_true, if_true, if_false, wi_eq, wi_eq', wi_ne, wi_row, wi_2, N0, N1, N2, N3, N4, N5, N6, N7, N8, N9, N10, N11, N12, N13, N14, N15, N16, N17, N18, N19, N20, N21, N22, N23, N24, N25, N26, N27, N28, N29, N30, N31, N32, N33, N34, N35, N36, N37, N38, N39, N40, N41, N42, N43, N45, N48, N57, N59, N88, N89, N97, N99, N120, N121, N122, N179, N200, N255, N300, N400, N880, N900, N999, N1019, N50000000, N100000000, N1000000000, N2147483647, N2147483648, e1]
    rw [c1, Int.zero_mul]
  · have a1 : a = 1 := by omega
    by_cases c2 : c = 0
    · simp (disch := omega) only [gd_t, bd_s, nm_W, nm_I, I_add, I_sub, I_mul, I_neg, I_le_t, I_le_f, I_lt_t, I_lt_f, I_eq_t, I_eq_f, I_inb', I_ix', Int.toNat_natCast, decide_true, decide_false, Bool.not_false, Bool.not_true, if_true, if_false, wi_eq, wi_eq', wi_ne, wi_row, wi_2, N0, N1, N2, N3, N4, N5, N6, N7, N8, N9, N10, N11, N12, N13, N14, N15, N16, N17, N18, N19, N20, N21, N22, N23, N24, N25, N26, N27, N28, N29, N30, N31, N32, N33, N34, N35, N36, N37, N38, N39, N40, N41, N42, N43, N45, N48, N57, N59, N88, N89, N97, N99, N120, N121, N122, N179, N200, N255, N300, N400, N880, N900, N999, N1019, N50000000, N100000000, N1000000000, N2147483647, N2147483648, e1, e2]
      rw [c2, Int.mul_zero]
    · simp (disch := omega) only [gd_t, bd_s, nm_W, nm_I, I_add, I_sub, I_mul, I_neg, I_le_t, I_le_f, I_lt_t, I_lt_f, I_eq_t, I_eq_f, I_inb', I_ix', Int.toNat_natCast, decide_true, decide_false, Bool.not_false, Bool.not_true, if_true, if_false, wi_eq, wi_eq', wi_ne, wi_row, wi_2, N0, N1, N2, N3, N4, N5, N6, N7, N8, N9, N10, N11, N12, N13, N14, N15, N16, N17, N18, N19, N20, N21, N22, N23, N24, N25, N26, N27, N28, N29, N30, N31, N32, N33, N34, N35, N36, N37, N38, N39, N40, N41, N42, N43, N45, N48, N57, N59, N88, N89, N97, N99, N120, N121, N122, N179, N200, N255, N300, N400, N880, N900, N999, N1019, N50000000, N100000000, N1000000000, N2147483647, N2147483648, e1, e2]
      rw [a1, show c = 1 from by omega]
      rfl
theorem level_1 {τ : Wd} {v k w : Int} (e : f_X7_isVenue (I v) (wi τ 102 0 (I 0)) = some (I 0, wi τ 102 0 (I 0))) : f_X7_level (I v) (I k) (I w) τ = some (I (-1), refW τ (I 1)) := by
  unfold f_X7_level refW f_X7_level_37
  simp (disch := omega) only [gd_t, bd_s, nm_W, nm_I, I_add, I_sub, I_mul, I_neg, I_le_t, I_le_f, I_lt_t, I_lt_f, I_eq_t, I_eq_f, I_inb', I_ix', Int.toNat_natCast, decide_true, decide_false, Bool.not_false, Bool.not_true, if_true, if_false, wi_eq, wi_eq', wi_ne, wi_row, wi_2, N0, N1, N2, N3, N4, N5, N6, N7, N8, N9, N10, N11, N12, N13, N14, N15, N16, N17, N18, N19, N20, N21, N22, N23, N24, N25, N26, N27, N28, N29, N30, N31, N32, N33, N34, N35, N36, N37, N38, N39, N40, N41, N42, N43, N45, N48, N57, N59, N88, N89, N97, N99, N120, N121, N122, N179, N200, N255, N300, N400, N880, N900, N999, N1019, N50000000, N100000000, N1000000000, N2147483647, N2147483648, e, refR]
theorem level_2 {τ : Wd} {v : Nat} {k w l a c : Int} (v5 : v < 5) (e : f_X7_isVenue (I (v : Int)) (wi τ 102 0 (I 0)) = some (I 1, wi τ 102 0 (I 0))) (h4 : τ.1 103 (5 * v + 4) = I l) (e2 : f_X7_in (I k) (I 0) (I (l - 1)) (wi τ 102 0 (I 0)) = some (I a, wi τ 102 0 (I 0))) (e3 : f_X7_in (I w) (I 0) (I 1) (wi τ 102 0 (I 0)) = some (I c, wi τ 102 0 (I 0))) (h : a = 0 ∨ (a = 1 ∧ c = 0)) : f_X7_level (I (v : Int)) (I k) (I w) τ = some (I (-1), refW τ (I 1)) := by
  have tv := levels7 (σ := wi τ 102 0 (I 0)) v5
  rw [wi_row (by decide), h4] at tv
  unfold f_X7_level refW f_X7_level_37
  rcases h with h | ⟨h, h2⟩
  · simp (disch := omega) only [gd_t, bd_s, nm_W, nm_I, I_add, I_sub, I_mul, I_neg, I_le_t, I_le_f, I_lt_t, I_lt_f, I_eq_t, I_eq_f, I_inb', I_ix', Int.toNat_natCast, decide_true, decide_false, Bool.not_false, Bool.not_true, if_true, if_false, wi_eq, wi_eq', wi_ne, wi_row, wi_2, N0, N1, N2, N3, N4, N5, N6, N7, N8, N9, N10, N11, N12, N13, N14, N15, N16, N17, N18, N19, N20, N21, N22, N23, N24, N25, N26, N27, N28, N29, N30, N31, N32, N33, N34, N35, N36, N37, N38, N39, N40, N41, N42, N43, N45, N48, N57, N59, N88, N89, N97, N99, N120, N121, N122, N179, N200, N255, N300, N400, N880, N900, N999, N1019, N50000000, N100000000, N1000000000, N2147483647, N2147483648, e, tv, e2, refR]
  · simp (disch := omega) only [gd_t, bd_s, nm_W, nm_I, I_add, I_sub, I_mul, I_neg, I_le_t, I_le_f, I_lt_t, I_lt_f, I_eq_t, I_eq_f, I_inb', I_ix', Int.toNat_natCast, decide_true, decide_false, Bool.not_false, Bool.not_true, if_true, if_false, wi_eq, wi_eq', wi_ne, wi_row, wi_2, N0, N1, N2, N3, N4, N5, N6, N7, N8, N9, N10, N11, N12, N13, N14, N15, N16, N17, N18, N19, N20, N21, N22, N23, N24, N25, N26, N27, N28, N29, N30, N31, N32, N33, N34, N35, N36, N37, N38, N39, N40, N41, N42, N43, N45, N48, N57, N59, N88, N89, N97, N99, N120, N121, N122, N179, N200, N255, N300, N400, N880, N900, N999, N1019, N50000000, N100000000, N1000000000, N2147483647, N2147483648, e, tv, e2, e3, refR]
theorem level_3 {τ : Wd} {v k : Nat} {w l x y : Int} (v5 : v < 5) (k6 : k < 6) (e : f_X7_isVenue (I (v : Int)) (wi τ 102 0 (I 0)) = some (I 1, wi τ 102 0 (I 0))) (h4 : τ.1 103 (5 * v + 4) = I l) (e2 : f_X7_in (I (k : Int)) (I 0) (I (l - 1)) (wi τ 102 0 (I 0)) = some (I 1, wi τ 102 0 (I 0))) (e3 : f_X7_in (I w) (I 0) (I 1) (wi τ 102 0 (I 0)) = some (I 1, wi τ 102 0 (I 0))) (hw : 0 ≤ w ∧ w ≤ 1) (hx : τ.1 104 (6 * v + k) = I x) (hy : τ.1 112 (6 * v + k) = I y) :
    f_X7_level (I (v : Int)) (I (k : Int)) (I w) τ = bd (f_X7_good (I (if w = 0 then x else y)) (wi τ 102 0 (I 0))) (fun r s => some (r, s)) := by
  have tv := levels7 (σ := wi τ 102 0 (I 0)) v5
  rw [wi_row (by decide), h4] at tv
  have p7 := price7 (σ := wi τ 102 0 (I 0)) v5 k6
  have s7 := size7 (σ := wi τ 102 0 (I 0)) v5 k6
  rw [wi_row (by decide), hx] at p7
  rw [wi_row (by decide), hy] at s7
  by_cases c : w = 0
  · rw [if_pos c]
    unfold f_X7_level f_X7_level_63
    simp (disch := omega) only [gd_t, bd_s, nm_W, nm_I, I_add, I_sub, I_mul, I_neg, I_le_t, I_le_f, I_lt_t, I_lt_f, I_eq_t, I_eq_f, I_inb', I_ix', Int.toNat_natCast, decide_true, decide_false, Bool.not_false, Bool.not_true, if_true, if_false, wi_eq, wi_eq', wi_ne, wi_row, wi_2, N0, N1, N2, N3, N4, N5, N6, N7, N8, N9, N10, N11, N12, N13, N14, N15, N16, N17, N18, N19, N20, N21, N22, N23, N24, N25, N26, N27, N28, N29, N30, N31, N32, N33, N34, N35, N36, N37, N38, N39, N40, N41, N42, N43, N45, N48, N57, N59, N88, N89, N97, N99, N120, N121, N122, N179, N200, N255, N300, N400, N880, N900, N999, N1019, N50000000, N100000000, N1000000000, N2147483647, N2147483648, e, tv, e2, e3, p7]
  · rw [if_neg c]
    unfold f_X7_level f_X7_level_63
    simp (disch := omega) only [gd_t, bd_s, nm_W, nm_I, I_add, I_sub, I_mul, I_neg, I_le_t, I_le_f, I_lt_t, I_lt_f, I_eq_t, I_eq_f, I_inb', I_ix', Int.toNat_natCast, decide_true, decide_false, Bool.not_false, Bool.not_true, if_true, if_false, wi_eq, wi_eq', wi_ne, wi_row, wi_2, N0, N1, N2, N3, N4, N5, N6, N7, N8, N9, N10, N11, N12, N13, N14, N15, N16, N17, N18, N19, N20, N21, N22, N23, N24, N25, N26, N27, N28, N29, N30, N31, N32, N33, N34, N35, N36, N37, N38, N39, N40, N41, N42, N43, N45, N48, N57, N59, N88, N89, N97, N99, N120, N121, N122, N179, N200, N255, N300, N400, N880, N900, N999, N1019, N50000000, N100000000, N1000000000, N2147483647, N2147483648, e, tv, e2, e3, s7]
theorem level_K {σ : Wd} {m v k : Nat} {w x y : Int} (v5 : v < 5) (k6 : k < 6) (hm : σ.2.2 0 4 = m) (bm : bM m = true) (hw : 0 ≤ w ∧ w ≤ 1) (hx : σ.1 (m + 8) (6 * v + k) = I x) (hy : σ.1 (m + 9) (6 * v + k) = I y) :
    (bd (f_X6_slot (I (v : Int)) (I (k : Int)) σ) fun r3 σ4 => if I w = 0 then (gd (bM (σ4.2.2 0 4)) (gd (inb r3 30) ((f_X6_level_68 (σ4.1 ((σ4.2.2 0 4) + 8) (ix r3)) σ4)))) else (gd (bM (σ4.2.2 0 4)) (gd (inb r3 30) ((f_X6_level_68 (σ4.1 ((σ4.2.2 0 4) + 9) (ix r3)) σ4))))) = some (I (if w = 0 then x else y), σ) := by
  have t1 : ((v : Int) * 6 + (k : Int)).toNat = 6 * v + k := by omega
  by_cases c : w = 0
  · have ei : (if w = 0 then x else y) = x := if_pos c
    rw [ei]
    simp (disch := omega) only [gd_t, bd_s, nm_W, nm_I, I_add, I_sub, I_mul, I_neg, I_le_t, I_le_f, I_lt_t, I_lt_f, I_eq_t, I_eq_f, I_inb', I_ix', Int.toNat_natCast, decide_true, decide_false, Bool.not_false, Bool.not_true, if_true, if_false, wi_eq, wi_eq', wi_ne, wi_row, wi_2, N0, N1, N2, N3, N4, N5, N6, N7, N8, N9, N10, N11, N12, N13, N14, N15, N16, N17, N18, N19, N20, N21, N22, N23, N24, N25, N26, N27, N28, N29, N30, N31, N32, N33, N34, N35, N36, N37, N38, N39, N40, N41, N42, N43, N45, N48, N57, N59, N88, N89, N97, N99, N120, N121, N122, N179, N200, N255, N300, N400, N880, N900, N999, N1019, N50000000, N100000000, N1000000000, N2147483647, N2147483648, f_X6_slot, hm, bm, t1, hx, f_X6_level_68]
  · have ei : (if w = 0 then x else y) = y := if_neg c
    rw [ei]
    simp (disch := omega) only [gd_t, bd_s, nm_W, nm_I, I_add, I_sub, I_mul, I_neg, I_le_t, I_le_f, I_lt_t, I_lt_f, I_eq_t, I_eq_f, I_inb', I_ix', Int.toNat_natCast, decide_true, decide_false, Bool.not_false, Bool.not_true, if_true, if_false, wi_eq, wi_eq', wi_ne, wi_row, wi_2, N0, N1, N2, N3, N4, N5, N6, N7, N8, N9, N10, N11, N12, N13, N14, N15, N16, N17, N18, N19, N20, N21, N22, N23, N24, N25, N26, N27, N28, N29, N30, N31, N32, N33, N34, N35, N36, N37, N38, N39, N40, N41, N42, N43, N45, N48, N57, N59, N88, N89, N97, N99, N120, N121, N122, N179, N200, N255, N300, N400, N880, N900, N999, N1019, N50000000, N100000000, N1000000000, N2147483647, N2147483648, f_X6_slot, hm, bm, t1, hy, f_X6_level_68]
theorem m_level (x y z : Int32) : MT (f_X6_level x y z) (f_X7_level x y z) := by
  intro σ τ B ⟨m, V, E, pres, kp, d, p, L, W, dl, pl, et, b, t, s, rd, h, n, g, hG⟩ hB
  obtain ⟨v, rfl, hv⟩ := argI x
  obtain ⟨k, rfl, hk⟩ := argI y
  obtain ⟨w, rfl, hw⟩ := argI z
  obtain ⟨bm, m10, m63⟩ := bMm hG.1
  have hM0 := hG.2.2.1.1.1
  have h5 := hM0.1.1
  have g21 : (wi τ 102 0 (I 0)).1 102 21 = I (bn pres) := by rw [wi_ne (by decide)]; exact hG.2.2.2.1.2.1
  have g14 : (wi τ 102 0 (I 0)).1 102 14 = I (V : Int) := by rw [wi_ne (by decide)]; exact hM0.2.2.1.1
  have c1 := cIsV (σ := σ) hv hG.2.1 bm hM0.2.1.1 h5
  obtain ⟨l, hl⟩ : ∃ l : Nat, l = if 0 ≤ v ∧ v < (V : Int) then d.lv v.toNat else 0 := ⟨_, rfl⟩
  have lb : l ≤ 6 := by
    split at hl
    · rw [hl]; exact lv6 hM0.1 _ (by omega)
    · omega
  have lv : 0 ≤ v ∧ v < (V : Int) → l = d.lv v.toNat := fun q => by rw [hl, if_pos q]
  have c2 := c_isLevel (k := k) (l := (l : Int)) hG.2.1 bm c1 (bn_bnd _) hk (fun q => by have := bn_1 q; omega) (fun q => by have y := bn_1 q; rw [lv y]; exact (hM0.2.1.2 v.toNat (by omega)).2.2.2.2.1) (by omega)
  have c3 := cWithin (σ := σ) (lo := 0) (hi := 1) hw (by unfold R; omega) (by unfold R; omega)
  have ri : ∀ l : Nat, l ≤ 6 → f_X7_in (I k) (I 0) (I ((l : Int) - 1)) (wi τ 102 0 (I 0)) = some (I (bn (decide (0 ≤ k ∧ k ≤ (l : Int) - 1))), wi τ 102 0 (I 0)) := fun l hl => rIn hk (by unfold R; omega) (by unfold R; omega)
  have rw' := rIn (σ := wi τ 102 0 (I 0)) (lo := 0) (hi := 1) hw (by unfold R; omega) (by unfold R; omega)
  obtain ⟨x, σ', τ', k1, k2, k3, k4⟩ := grq_ok (a := bn (decide (bn (decide (0 ≤ v ∧ v < (V : Int))) = 1 ∧ 0 ≤ k ∧ k < (l : Int)) && decide (0 ≤ w ∧ w ≤ 1))) (nn := 1) (ss := 1) (low := I (-1)) (K := fun σ2 => bd (f_X6_slot (I v) (I k) σ2) fun r3 σ4 => if I w = 0 then (gd (bM (σ4.2.2 0 4)) (gd (inb r3 30) ((f_X6_level_68 (σ4.1 ((σ4.2.2 0 4) + 8) (ix r3)) σ4)))) else (gd (bM (σ4.2.2 0 4)) (gd (inb r3 30) ((f_X6_level_68 (σ4.1 ((σ4.2.2 0 4) + 9) (ix r3)) σ4))))) (fr := f_X7_level (I v) (I k) (I w))
    hG (bn_bnd _) (by omega) (by omega)
    (fun hc => by
      rcases tc_cases (pres := pres) (a := bn (decide (bn (decide (0 ≤ v ∧ v < (V : Int))) = 1 ∧ 0 ≤ k ∧ k < (l : Int)) && decide (0 ≤ w ∧ w ≤ 1))) (n := 1) (s := 1) with ⟨q1, q2⟩ | ⟨q1, q2, q3⟩ | ⟨-, -, q2, -⟩ | ⟨-, -, -, q2, -⟩ | ⟨-, -, -, -, q2⟩
      · rw [q2]; exact level_1 (rIsV0 hv g21 (bn_bnd _) g14 h5 (Or.inl (by rw [q1]; rfl)))
      · rw [q3]
        by_cases y : 0 ≤ v ∧ v < (V : Int)
        · have ev := rIsV1 (τ := wi τ 102 0 (I 0)) (x := bn pres) hv g21 (by rw [q1]; rfl) g14 h5 y.1 y.2
          have lv := lv y
          obtain ⟨u, rfl⟩ := Int.eq_ofNat_of_zero_le y.1
          refine level_2 (l := (l : Int)) (by omega) ev (by rw [lv, Int.toNat_natCast]; exact (hM0.2.2.1.2 u (by omega)).2.2.2.2.1) (ri l lb) rw' ?_
          by_cases w1 : 0 ≤ k ∧ k ≤ (l : Int) - 1
          · rw [decide_eq_true y, decide_eq_true (show bn true = 1 ∧ 0 ≤ k ∧ k < (l : Int) from ⟨rfl, by omega, by omega⟩), Bool.true_and] at q2
            rw [decide_eq_true w1]
            exact Or.inr ⟨rfl, q2⟩
          · rw [decide_eq_false w1]
            exact Or.inl rfl
        · exact level_1 (rIsV0 hv g21 (bn_bnd _) g14 h5 (Or.inr y))
      · omega
      · omega
      · exact absurd q2 hc)
    (fun hp ha _ _ hM hR => by
      have q : (decide (bn (decide (0 ≤ v ∧ v < (V : Int))) = 1 ∧ 0 ≤ k ∧ k < (l : Int)) && decide (0 ≤ w ∧ w ≤ 1)) = true := by
        cases e : (decide (bn (decide (0 ≤ v ∧ v < (V : Int))) = 1 ∧ 0 ≤ k ∧ k < (l : Int)) && decide (0 ≤ w ∧ w ≤ 1)) with
        | true => rfl
        | false => rw [e] at ha; cases ha
      obtain ⟨q1, q2⟩ := Bool.and_eq_true_iff.mp q
      obtain ⟨q3, k0, kl⟩ := of_decide_eq_true q1
      have ww := of_decide_eq_true q2
      have y := bn_1 q3
      have ev := rIsV1 (τ := wi τ 102 0 (I 0)) (x := bn pres) hv g21 (by rw [hp]; rfl) g14 h5 y.1 y.2
      have lv := lv y
      obtain ⟨u, rfl⟩ := Int.eq_ofNat_of_zero_le y.1
      obtain ⟨j, rfl⟩ := Int.eq_ofNat_of_zero_le k0
      have hu : u < V := by omega
      rw [Int.toNat_natCast] at lv
      have hj : j < d.lv u := by omega
      obtain ⟨a1, a2⟩ := (hM.2.1.2 u hu).2.2.2.2.2 j hj
      obtain ⟨b1, b2⟩ := (hM0.2.2.1.2 u hu).2.2.2.2.2 j hj
      exact ⟨_, _, _, level_K (by omega) (by omega) (show (wi σ 0 12 (I 0)).2.2 0 4 = m from hG.2.1) bm ww a1 a2, level_3 (l := (l : Int)) (by omega) (by omega) ev (by rw [lv]; exact (hM0.2.2.1.2 u hu).2.2.2.2.1) (rIn1 hk (by unfold R; omega) (by unfold R; omega) ⟨by omega, by omega⟩) (rIn1 hw (by unfold R; omega) (by unfold R; omega) ww) ww b1 b2, QFr, RQr⟩)
  refine ⟨x, σ', τ', ?_, k2, ⟨m, V, E, pres, kp, d, p, L, W, dl, pl, et, b, t, s, rd, h, n, g, GA_B k3 (by omega)⟩, k4⟩
  rw [c_level c2 c3 (bn_bnd _) (bn_bnd _), bn_mul]
  exact k1
