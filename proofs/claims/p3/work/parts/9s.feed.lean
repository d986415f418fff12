/-! PURE: feed, with its bytes -/
def bq (a : Int32) (q : Int) : Int32 := vp_nar .byte ((a >>> (I (24 - 8 * q) &&& I 31)).toInt8.toInt32)
theorem nar_byte (x : Int32) : vp_nar .byte x = x.toInt8.toInt32 := rfl
theorem bq_b (a : Int32) (q : Int) : -128 ≤ (bq a q).toInt ∧ (bq a q).toInt ≤ 127 := by
  unfold bq
  rw [nar_byte, Int8.toInt_toInt32]
  have h1 := Int8.le_toInt (((a >>> (I (24 - 8 * q) &&& I 31)).toInt8.toInt32).toInt8)
  have h2 := Int8.toInt_lt (((a >>> (I (24 - 8 * q) &&& I 31)).toInt8.toInt32).toInt8)
  omega
theorem put_b {a : Int32} : ∀ (r q n l : Nat) (z : Int) (σ : Wd), z = 24 - 8 * (q : Int) → q + r = 4 → r < n → σ.1 1 0 = I (l : Int) → l + r ≤ 900 →
    ∃ σ', f_X5_put_3 n a (I z) σ = some (0, σ') ∧ σ'.1 1 0 = I ((l + r : Nat) : Int) ∧ (∀ i, i < r → σ'.1 2 (l + i) = bq a ((q + i : Nat) : Int)) ∧ (∀ i, i < l → σ'.1 2 i = σ.1 2 i) ∧ (∀ k, k ≠ 1 → k ≠ 2 → σ'.1 k = σ.1 k) ∧ (∀ i, i ≠ 0 → σ'.1 1 i = σ.1 1 i) ∧ σ'.2 = σ.2
  | 0, q, n + 1, l, z, σ, hz, hq, _, h1, hl => by
    refine ⟨σ, ?_, h1, fun i hi => absurd hi (by omega), fun _ _ => rfl, fun _ _ _ => rfl, fun _ _ => rfl, rfl⟩
    rw [f_X5_put_3]
    unfold f_X5_put_46
    simp (disch := omega) only [gd_t, bd_s, nm_W, nm_I, I_add, I_sub, I_mul, I_neg, I_le_t, I_le_f, I_lt_t, I_lt_f, I_eq_t, I_eq_f, I_inb', I_ix', Int.toNat_natCast, decide_true, decide_false, Bool.not_false, Bool.not_true, if_true, if_false, wi_eq, wi_eq', wi_ne, wi_row, wi_2, N0, N1, N2, N3, N4, N5, N6, N7, N8, N9, N10, N11, N12, N13, N14, N15, N16, N17, N18, N19, N20, N21, N22, N23, N24, N25, N26, N27, N28, N29, N30, N31, N32, N33, N34, N35, N36, N37, N38, N39, N40, N41, N42, N43, N45, N48, N57, N59, N88, N89, N97, N99, N120, N121, N122, N179, N200, N255, N300, N400, N880, N900, N999, N1019, N50000000, N100000000, N1000000000, N2147483647, N2147483648]
  | r + 1, q, n + 1, l, z, σ, hz, hq, hn, h1, hl => by
    obtain ⟨σ', e1, e2, e3, e4, e5, e6, e7⟩ := put_b (a := a) r (q + 1) n (l + 1) (z + -8) (wi (wi σ 2 l (bq a (q : Int))) 1 0 (I ((l : Int) + 1))) (by omega) (by omega) (by omega) (by rw [wi_eq]; rfl) (by omega)
    refine ⟨σ', ?_, by rw [e2, show l + 1 + r = l + (r + 1) by omega], fun i hi => ?_, fun i hi => by rw [e4 i (by omega), wi_row (by decide), wi_ne (by omega)], fun k k1 k2 => by rw [e5 k k1 k2, wi_row k1, wi_row k2], fun i hi => by rw [e6 i hi, wi_ne hi, wi_row (by decide)], by rw [e7]; rfl⟩
    · rw [← e1, f_X5_put_3]
      unfold bq
      subst hz
      simp (disch := omega) only [gd_t, bd_s, nm_W, nm_I, I_add, I_sub, I_mul, I_neg, I_le_t, I_le_f, I_lt_t, I_lt_f, I_eq_t, I_eq_f, I_inb', I_ix', Int.toNat_natCast, decide_true, decide_false, Bool.not_false, Bool.not_true, if_true, if_false, wi_eq, wi_eq', wi_ne, wi_row, wi_2, N0, N1, N2, N3, N4, N5, N6, N7, N8, N9, N10, N11, N12, N13, N14, N15, N16, N17, N18, N19, N20, N21, N22, N23, N24, N25, N26, N27, N28, N29, N30, N31, N32, N33, N34, N35, N36, N37, N38, N39, N40, N41, N42, N43, N45, N48, N57, N59, N88, N89, N97, N99, N120, N121, N122, N179, N200, N255, N300, N400, N880, N900, N999, N1019, N50000000, N100000000, N1000000000, N2147483647, N2147483648, h1]
    · by_cases c : i = 0
      · rw [c, e4 (l + 0) (by omega), wi_row (by decide)]
        exact wi_eq
      · obtain ⟨j, rfl⟩ : ∃ j, i = j + 1 := ⟨i - 1, by omega⟩
        rw [show l + (j + 1) = l + 1 + j by omega, e3 j (by omega), show q + 1 + j = q + (j + 1) by omega]
theorem puts_b {a : Int32} {l : Nat} {σ : Wd} (h1 : σ.1 1 0 = I (l : Int)) (hl : l + 4 ≤ 900) : ∃ σ', f_X5_put a σ = some (0, σ') ∧ σ'.1 1 0 = I ((l + 4 : Nat) : Int) ∧ (∀ i, i < 4 → σ'.1 2 (l + i) = bq a ((i : Nat) : Int)) ∧ (∀ i, i < l → σ'.1 2 i = σ.1 2 i) ∧ (∀ k, k ≠ 1 → k ≠ 2 → σ'.1 k = σ.1 k) ∧ (∀ i, i ≠ 0 → σ'.1 1 i = σ.1 1 i) ∧ σ'.2 = σ.2 := by
  obtain ⟨σ', e1, e2, e3, e4⟩ := put_b (a := a) 4 0 FU l 24 σ (by decide) rfl (by decide) h1 hl
  exact ⟨σ', e1, e2, fun i hi => by rw [e3 i hi, Nat.zero_add], e4⟩
def sel (a b c d e : Int32) (i : Nat) : Int32 := if i < 4 then a else if i < 8 then b else if i < 12 then c else if i < 16 then d else e
theorem feed_c {a b c d e : Int32} {l : Nat} {σ : Wd} (h1 : σ.1 1 0 = I (l : Int)) (hl : l + 20 ≤ 900) : ∃ σ', f_X6_feed a b c d e σ = some (I ((l + 20 : Nat) : Int), σ') ∧ σ'.1 1 0 = I ((l + 20 : Nat) : Int) ∧ (∀ i, i < 20 → σ'.1 2 (l + i) = bq (sel a b c d e i) ((i % 4 : Nat) : Int)) ∧ (∀ i, i < l → σ'.1 2 i = σ.1 2 i) ∧ (∀ k, k ≠ 1 → k ≠ 2 → σ'.1 k = σ.1 k) ∧ (∀ i, i ≠ 0 → σ'.1 1 i = σ.1 1 i) ∧ σ'.2 = σ.2 := by
  obtain ⟨σ1, a1, a2, a3, a4, a5, a6, a7⟩ := puts_b (a := a) h1 (by omega)
  obtain ⟨σ2, b1, b2, b3, b4, b5, b6, b7⟩ := puts_b (a := b) a2 (by omega)
  obtain ⟨σ3, c1, c2, c3, c4, c5, c6, c7⟩ := puts_b (a := c) b2 (by omega)
  obtain ⟨σ4, d1, d2, d3, d4, d5, d6, d7⟩ := puts_b (a := d) c2 (by omega)
  obtain ⟨σ5, e1, e2, e3, e4, e5, e6, e7⟩ := puts_b (a := e) d2 (by omega)
  have e2 : σ5.1 1 0 = I ((l + 20 : Nat) : Int) := e2
  refine ⟨σ5, ?_, e2, fun i hi => ?_, fun i hi => by rw [e4 i (by omega), d4 i (by omega), c4 i (by omega), b4 i (by omega), a4 i hi], fun k k1 k2 => by rw [e5 k k1 k2, d5 k k1 k2, c5 k k1 k2, b5 k k1 k2, a5 k k1 k2], fun i hi => by rw [e6 i hi, d6 i hi, c6 i hi, b6 i hi, a6 i hi], by rw [e7, d7, c7, b7, a7]⟩
  · unfold f_X6_feed
    rw [if_pos (show σ.1 1 0 ≤ (880 : Int32) by rw [h1]; show I (l : Int) ≤ I 880; rw [I_le (by unfold R; omega) (by unfold R; omega)]; omega), a1, bd_s, b1, bd_s, c1, bd_s, d1, bd_s, e1, bd_s, e2]
  · unfold sel
    by_cases q1 : i < 4
    · rw [if_pos q1, e4 _ (by omega), d4 _ (by omega), c4 _ (by omega), b4 _ (by omega), a3 i q1, show i % 4 = i by omega]
    · rw [if_neg q1]
      by_cases q2 : i < 8
      · rw [if_pos q2, e4 _ (by omega), d4 _ (by omega), c4 _ (by omega), show l + i = l + 4 + (i - 4) by omega, b3 (i - 4) (by omega), show i % 4 = i - 4 by omega]
      · rw [if_neg q2]
        by_cases q3 : i < 12
        · rw [if_pos q3, e4 _ (by omega), d4 _ (by omega), show l + i = l + 4 + 4 + (i - 8) by omega, c3 (i - 8) (by omega), show i % 4 = i - 8 by omega]
        · rw [if_neg q3]
          by_cases q4 : i < 16
          · rw [if_pos q4, e4 _ (by omega), show l + i = l + 4 + 4 + 4 + (i - 12) by omega, d3 (i - 12) (by omega), show i % 4 = i - 12 by omega]
          · rw [if_neg q4, show l + i = l + 4 + 4 + 4 + 4 + (i - 16) by omega, e3 (i - 16) (by omega), show i % 4 = i - 16 by omega]
theorem feed_l {a b c d e : Int32} : ∀ (r q n l : Nat) (z : Int) (τ : Wd), z = (q : Int) → q + r = 20 → r < n → τ.1 102 27 = I (l : Int) → l + r ≤ 900 →
    ∃ τ', f_X7_feed_23 n a b c d e (I z) τ = some (I ((l + r : Nat) : Int), τ') ∧ τ'.1 102 27 = I ((l + r : Nat) : Int) ∧ (∀ i, i < r → τ'.1 115 (l + i) = bq (sel a b c d e (q + i)) (((q + i) % 4 : Nat) : Int)) ∧ (∀ i, i < l → τ'.1 115 i = τ.1 115 i) ∧ (∀ k, k ≠ 102 → k ≠ 115 → τ'.1 k = τ.1 k) ∧ (∀ i, i ≠ 27 → τ'.1 102 i = τ.1 102 i) ∧ τ'.2 = τ.2
  | 0, q, n + 1, l, z, τ, hz, hq, _, h1, hl => by
    refine ⟨τ, ?_, h1, fun i hi => absurd hi (by omega), fun _ _ => rfl, fun _ _ _ => rfl, fun _ _ => rfl, rfl⟩
    rw [f_X7_feed_23]
    simp (disch := omega) only [gd_t, bd_s, nm_W, nm_I, I_add, I_sub, I_mul, I_neg, I_le_t, I_le_f, I_lt_t, I_lt_f, I_eq_t, I_eq_f, I_inb', I_ix', Int.toNat_natCast, decide_true, decide_false, Bool.not_false, Bool.not_true, if_true, if_false, wi_eq, wi_eq', wi_ne, wi_row, wi_2, N0, N1, N2, N3, N4, N5, N6, N7, N8, N9, N10, N11, N12, N13, N14, N15, N16, N17, N18, N19, N20, N21, N22, N23, N24, N25, N26, N27, N28, N29, N30, N31, N32, N33, N34, N35, N36, N37, N38, N39, N40, N41, N42, N43, N45, N48, N57, N59, N88, N89, N97, N99, N120, N121, N122, N179, N200, N255, N300, N400, N880, N900, N999, N1019, N50000000, N100000000, N1000000000, N2147483647, N2147483648, h1]
    rfl
  | r + 1, q, n + 1, l, z, τ, hz, hq, hn, h1, hl => by
    obtain ⟨τ', e1, e2, e3, e4, e5, e6, e7⟩ := feed_l (a := a) (b := b) (c := c) (d := d) (e := e) r (q + 1) n (l + 1) (z + 1) (wi (wi τ 115 l (bq (sel a b c d e q) ((q % 4 : Nat) : Int))) 102 27 (I ((l : Int) + 1))) (by omega) (by omega) (by omega) (by rw [wi_eq]; rfl) (by omega)
    have key : f_X7_feed_23 (n + 1) a b c d e (I z) τ = f_X7_feed_76 (f_X7_feed_23 n) a b c d e (I z) (sel a b c d e q) τ := by
      rw [f_X7_feed_23]
      unfold sel
      by_cases q1 : q < 4
      · rw [if_pos q1]; simp (disch := omega) only [gd_t, bd_s, nm_W, nm_I, I_add, I_sub, I_mul, I_neg, I_le_t, I_le_f, I_lt_t, I_lt_f, I_eq_t, I_eq_f, I_inb', I_ix', Int.toNat_natCast, decide_true, decide_false, Bool.not_false, Bool.not_true, if_true, if_false, wi_eq, wi_eq', wi_ne, wi_row, wi_2, N0, N1, N2, N3, N4, N5, N6, N7, N8, N9, N10, N11, N12, N13, N14, N15, N16, N17, N18, N19, N20, N21, N22, N23, N24, N25, N26, N27, N28, N29, N30, N31, N32, N33, N34, N35, N36, N37, N38, N39, N40, N41, N42, N43, N45, N48, N57, N59, N88, N89, N97, N99, N120, N121, N122, N179, N200, N255, N300, N400, N880, N900, N999, N1019, N50000000, N100000000, N1000000000, N2147483647, N2147483648]
      · rw [if_neg q1]
        by_cases q2 : q < 8
        · rw [if_pos q2]; simp (disch := omega) only [gd_t, bd_s, nm_W, nm_I, I_add, I_sub, I_mul, I_neg, I_le_t, I_le_f, I_lt_t, I_lt_f, I_eq_t, I_eq_f, I_inb', I_ix', Int.toNat_natCast, decide_true, decide_false, Bool.not_false, Bool.not_true, if_true, if_false, wi_eq, wi_eq', wi_ne, wi_row, wi_2, N0, N1, N2, N3, N4, N5, N6, N7, N8, N9, N10, N11, N12, N13, N14, N15, N16, N17, N18, N19, N20, N21, N22, N23, N24, N25, N26, N27, N28, N29, N30, N31, N32, N33, N34, N35, N36, N37, N38, N39, N40, N41, N42, N43, N45, N48, N57, N59, N88, N89, N97, N99, N120, N121, N122, N179, N200, N255, N300, N400, N880, N900, N999, N1019, N50000000, N100000000, N1000000000, N2147483647, N2147483648]
        · rw [if_neg q2]
          by_cases q3 : q < 12
          · rw [if_pos q3]; simp (disch := omega) only [gd_t, bd_s, nm_W, nm_I, I_add, I_sub, I_mul, I_neg, I_le_t, I_le_f, I_lt_t, I_lt_f, I_eq_t, I_eq_f, I_inb', I_ix', Int.toNat_natCast, decide_true, decide_false, Bool.not_false, Bool.not_true, if_true, if_false, wi_eq, wi_eq', wi_ne, wi_row, wi_2, N0, N1, N2, N3, N4, N5, N6, N7, N8, N9, N10, N11, N12, N13, N14, N15, N16, N17, N18, N19, N20, N21, N22, N23, N24, N25, N26, N27, N28, N29, N30, N31, N32, N33, N34, N35, N36, N37, N38, N39, N40, N41, N42, N43, N45, N48, N57, N59, N88, N89, N97, N99, N120, N121, N122, N179, N200, N255, N300, N400, N880, N900, N999, N1019, N50000000, N100000000, N1000000000, N2147483647, N2147483648]
          · rw [if_neg q3]
            by_cases q4 : q < 16
            · rw [if_pos q4]; simp (disch := omega) only [gd_t, bd_s, nm_W, nm_I, I_add, I_sub, I_mul, I_neg, I_le_t, I_le_f, I_lt_t, I_lt_f, I_eq_t, I_eq_f, I_inb', I_ix', Int.toNat_natCast, decide_true, decide_false, Bool.not_false, Bool.not_true, if_true, if_false, wi_eq, wi_eq', wi_ne, wi_row, wi_2, N0, N1, N2, N3, N4, N5, N6, N7, N8, N9, N10, N11, N12, N13, N14, N15, N16, N17, N18, N19, N20, N21, N22, N23, N24, N25, N26, N27, N28, N29, N30, N31, N32, N33, N34, N35, N36, N37, N38, N39, N40, N41, N42, N43, N45, N48, N57, N59, N88, N89, N97, N99, N120, N121, N122, N179, N200, N255, N300, N400, N880, N900, N999, N1019, N50000000, N100000000, N1000000000, N2147483647, N2147483648]
            · rw [if_neg q4]; simp (disch := omega) only [gd_t, bd_s, nm_W, nm_I, I_add, I_sub, I_mul, I_neg, I_le_t, I_le_f, I_lt_t, I_lt_f, I_eq_t, I_eq_f, I_inb', I_ix', Int.toNat_natCast, decide_true, decide_false, Bool.not_false, Bool.not_true, if_true, if_false, wi_eq, wi_eq', wi_ne, wi_row, wi_2, N0, N1, N2, N3, N4, N5, N6, N7, N8, N9, N10, N11, N12, N13, N14, N15, N16, N17, N18, N19, N20, N21, N22, N23, N24, N25, N26, N27, N28, N29, N30, N31, N32, N33, N34, N35, N36, N37, N38, N39, N40, N41, N42, N43, N45, N48, N57, N59, N88, N89, N97, N99, N120, N121, N122, N179, N200, N255, N300, N400, N880, N900, N999, N1019, N50000000, N100000000, N1000000000, N2147483647, N2147483648]
    have em : I z % I 4 = I ((q % 4 : Nat) : Int) := by
      rw [I_mod (by unfold R; omega) (by unfold R; omega) (by omega) (by omega), hz]
      rfl
    have n4 : (!decide ((4 : Int32) = 0)) = true := by decide
    have g1 : inb (τ.1 102 27) 900 = true := by rw [h1]; exact inI (by omega) (by decide)
    refine ⟨τ', ?_, by rw [e2, show l + 1 + r = l + (r + 1) by omega], fun i hi => ?_, fun i hi => by rw [e4 i (by omega), wi_row (by decide), wi_ne (by omega)], fun k k1 k2 => by rw [e5 k k1 k2, wi_row k1, wi_row k2], fun i hi => by rw [e6 i hi, wi_ne hi, wi_row (by decide)], by rw [e7]; rfl⟩
    · rw [key, show l + (r + 1) = l + 1 + r by omega, ← e1]
      unfold f_X7_feed_76
      rw [n4, gd_t, g1, gd_t, nm_W, nm_W, show (4 : Int32) = I 4 from rfl, em, h1, show ix (I (l : Int)) = l from ixI (by omega)]
      unfold bq
      simp (disch := omega) only [gd_t, bd_s, nm_W, nm_I, I_add, I_sub, I_mul, I_neg, I_le_t, I_le_f, I_lt_t, I_lt_f, I_eq_t, I_eq_f, I_inb', I_ix', Int.toNat_natCast, decide_true, decide_false, Bool.not_false, Bool.not_true, if_true, if_false, wi_eq, wi_eq', wi_ne, wi_row, wi_2, N0, N1, N2, N3, N4, N5, N6, N7, N8, N9, N10, N11, N12, N13, N14, N15, N16, N17, N18, N19, N20, N21, N22, N23, N24, N25, N26, N27, N28, N29, N30, N31, N32, N33, N34, N35, N36, N37, N38, N39, N40, N41, N42, N43, N45, N48, N57, N59, N88, N89, N97, N99, N120, N121, N122, N179, N200, N255, N300, N400, N880, N900, N999, N1019, N50000000, N100000000, N1000000000, N2147483647, N2147483648, h1]
    · by_cases c0 : i = 0
      · rw [c0, e4 (l + 0) (by omega), wi_row (by decide)]
        exact wi_eq
      · obtain ⟨j, rfl⟩ : ∃ j, i = j + 1 := ⟨i - 1, by omega⟩
        rw [show l + (j + 1) = l + 1 + j by omega, e3 j (by omega), show q + 1 + j = q + (j + 1) by omega]
theorem m_feed (a b c d e : Int32) : MT (f_X6_feed a b c d e) (f_X7_feed a b c d e) := by
  intro σ τ B ⟨m, V, E, pres, kp, dd, p, L, W, dl, pl, et, bb, t, s, rd, h, n, g, hG⟩ hB
  have hG0 := hG
  obtain ⟨g1, g2, ⟨g3, g4⟩, ⟨g5, g6, g7⟩, ⟨g8, g9, g10⟩, ⟨⟨t1, t2, t3⟩, t4⟩, ⟨tp, p1, p2, p3, p4⟩⟩ := hG
  have m50 : m = 11 ∨ m = 24 := by omega
  by_cases c0 : tp + 20 ≤ 900
  · obtain ⟨σ', a1, a2, a3, a4, a5, a6, a7⟩ := feed_c (a := a) (b := b) (c := c) (d := d) (e := e) p2 c0
    obtain ⟨τ', b1, b2, b3, b4, b5, b6, b7⟩ := feed_l (a := a) (b := b) (c := c) (d := d) (e := e) 20 0 FU tp 0 (wi τ 102 0 (I 0)) rfl rfl (by decide) (by rw [wi_ne (by decide)]; exact p3) c0
    have c1 : ∀ k, k ≠ 1 → k ≠ 2 → σ'.1 k = σ.1 k := a5
    have e1 : ∀ k, k ≠ 102 → k ≠ 115 → τ'.1 k = τ.1 k := fun k k1 k2 => by rw [b5 k k1 k2, wi_row k1]
    have e2 : ∀ i, i ≠ 27 → i ≠ 0 → τ'.1 102 i = τ.1 102 i := fun i i1 i2 => by rw [b6 i i1, wi_ne i2]
    refine ⟨_, σ', τ', a1, ?_, ⟨m, V, E, pres, kp, dd, p, L, W, dl, pl, et, bb, t, s, rd, h, n, g, by rw [a7]; exact g1, by rw [a7]; exact g2, ⟨QQ_congr g3 (by omega) (fun k q1 q2 => c1 k (by omega) (by omega)) (fun k q1 q2 => c1 k (by omega) (by omega)) (fun i q1 q2 => e2 i (by omega) (by omega)) (e1 103 (by decide) (by decide)) (e1 104 (by decide) (by decide)) (e1 105 (by decide) (by decide)) (e1 112 (by decide) (by decide)), by omega⟩, ⟨by rw [c1 0 (by decide) (by decide)]; exact g5, by rw [e2 21 (by decide) (by decide)]; exact g6, g7⟩,
      ⟨by rw [c1 0 (by decide) (by decide)]; exact g8, by rw [e2 25 (by decide) (by decide)]; exact g9, fun q => ⟨(g10 q).1, KK_congr (g10 q).2 (by omega) (fun k q1 q2 => c1 k (by omega) (by omega)) (fun k q1 q2 => c1 k (by omega) (by omega)) (fun i q1 q2 => e2 i (by omega) (by omega)) (e1 103 (by decide) (by decide)) (e1 104 (by decide) (by decide)) (e1 105 (by decide) (by decide)) (e1 113 (by decide) (by decide))⟩⟩,
      ⟨⟨by rw [c1 0 (by decide) (by decide), e2 1 (by decide) (by decide)]; exact t1, fun q => ?_, fun q => ?_⟩, by rw [c1 0 (by decide) (by decide), e2 33 (by decide) (by decide)]; exact t4⟩, ⟨tp + 20, c0, a2, b2, fun i hi => ?_⟩⟩, ⟨fun k hk => c1 k (by omega) (by omega), by rw [a7]⟩, ⟨fun k hk => e1 k (by omega) (by omega), by rw [b7]; rfl⟩⟩
    · unfold f_X7_feed
      rw [nm_W, if_pos (show (wi τ 102 0 (0 : Int32)).1 102 27 + (20 : Int32) ≤ (900 : Int32) by
        rw [wi_ne (by decide), p3]; show I (tp : Int) + I 20 ≤ I 900; rw [I_add, I_le (by unfold R; omega) (by unfold R; omega)]; omega)]
      exact b1
    · rw [e2 2 (by decide) (by decide), a6 2 (by decide)]
      rw [c1 0 (by decide) (by decide)] at q
      exact t2 q
    · rw [e2 2 (by decide) (by decide)]
      rw [c1 0 (by decide) (by decide)] at q
      exact t3 q
    · by_cases ci : i < tp
      · rw [a4 i ci, b4 i ci, wi_row (by decide)]; exact p4 i ci
      · have q1 := a3 (i - tp) (by omega)
        have q2 := b3 (i - tp) (by omega)
        rw [show tp + (i - tp) = i by omega] at q1 q2
        rw [Nat.zero_add] at q2
        rw [q1, q2]
        exact ⟨rfl, bq_b _ _⟩
  · have e1 : f_X6_feed a b c d e σ = some (I (-1), σ) := by
      unfold f_X6_feed
      rw [if_neg (show ¬ σ.1 1 0 ≤ (880 : Int32) by rw [p2]; show ¬ I (tp : Int) ≤ I 880; rw [I_le (by unfold R; omega) (by unfold R; omega)]; omega)]
      rfl
    have e2 : f_X7_feed a b c d e τ = some (I (-1), wi τ 102 0 (I 0)) := by
      unfold f_X7_feed
      rw [nm_W, if_neg (show ¬ (wi τ 102 0 (0 : Int32)).1 102 27 + (20 : Int32) ≤ (900 : Int32) by
        rw [wi_ne (by decide), p3]; show ¬ I (tp : Int) + I 20 ≤ I 900; rw [I_add, I_le (by unfold R; omega) (by unfold R; omega)]; omega)]
      rfl
    exact ⟨I (-1), σ, _, e1, e2, told_ok (x := 0) ⟨m, V, E, pres, kp, dd, p, L, W, dl, pl, et, bb, t, s, rd, h, n, g, hG0⟩⟩
