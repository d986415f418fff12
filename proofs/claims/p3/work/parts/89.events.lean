/-! PURE: events of a tick -/
theorem et_mono {E : Nat} {et : Nat → Int} (hs : ∀ i, i + 1 < E → et i ≤ et (i + 1)) : ∀ (k i : Nat), i + k < E → et i ≤ et (i + k)
  | 0, _, _ => Int.le_refl _
  | k + 1, i, h => by
    have := et_mono hs k i (by omega)
    have := hs (i + k) (by omega)
    rw [show i + (k + 1) = i + k + 1 from rfl]
    omega
theorem ev_hit {i k V a b : Nat} {τ : Wd} {E T : Nat} {z : Int} {tt : Int} (hE : E ≤ 10) (hi : i < E) (h15 : τ.1 102 15 = I (E : Int)) (h37 : τ.1 112 37 = I tt) (e0 : τ.1 105 (4 * i) = I tt) (e1 : τ.1 105 (4 * i + 1) = I (a : Int)) (e2 : τ.1 105 (4 * i + 2) = I (b : Int)) (e3 : τ.1 105 (4 * i + 3) = I z) (ha : 6 * a + b < 30) :
    f_X7_tick_13 (k + 1) (I (i : Int)) τ = f_X7_tick_13 k (I ((i : Int) + 1)) (wi τ 112 (6 * a + b) (I z)) := by
  have w0 : ((4 : Int) * (i : Int)).toNat = 4 * i := by omega
  have w1 : ((4 : Int) * (i : Int) + 1).toNat = 4 * i + 1 := by omega
  have w2 : ((4 : Int) * (i : Int) + 2).toNat = 4 * i + 2 := by omega
  have w3 : ((4 : Int) * (i : Int) + 3).toNat = 4 * i + 3 := by omega
  have w4 : ((0 : Int) + 6 * (a : Int) + (b : Int)).toNat = 6 * a + b := by omega
  have w37 : Int.toNat 37 = 37 := rfl
  rw [f_X7_tick_13]
  simp (disch := omega) only [gd_t, bd_s, nm_W, nm_I, I_add, I_sub, I_mul, I_neg, I_le_t, I_le_f, I_lt_t, I_lt_f, I_eq_t, I_eq_f, I_inb', I_ix', Int.toNat_natCast, decide_true, decide_false, Bool.not_false, Bool.not_true, if_true, if_false, wi_eq, wi_eq', wi_ne, wi_row, wi_2, N0, N1, N2, N3, N4, N5, N6, N7, N8, N9, N10, N11, N12, N13, N14, N15, N16, N17, N18, N19, N20, N21, N22, N23, N24, N25, N26, N27, N28, N29, N30, N31, N32, N33, N34, N35, N36, N37, N38, N39, N40, N41, N42, N43, N45, N48, N57, N59, N88, N89, N97, N99, N120, N121, N122, N179, N200, N255, N300, N400, N880, N900, N999, N1019, N50000000, N100000000, N1000000000, N2147483647, N2147483648, h15, w0, w37, h37, e0, w1, w2, w3, e1, e2, e3, w4, f_X7_tick_80]
theorem ev_miss {i k : Nat} {τ : Wd} {E : Nat} {tt e : Int} (hE : E ≤ 10) (hi : i < E) (h15 : τ.1 102 15 = I (E : Int)) (h37 : τ.1 112 37 = I tt) (t0 : 0 ≤ tt) (t1 : tt ≤ 2000000) (e0 : τ.1 105 (4 * i) = I e) (b0 : 1 ≤ e) (b1 : e ≤ 200) (hn : e ≠ tt) :
    f_X7_tick_13 (k + 1) (I (i : Int)) τ = f_X7_tick_13 k (I ((i : Int) + 1)) τ := by
  have w0 : ((4 : Int) * (i : Int)).toNat = 4 * i := by omega
  have w37 : Int.toNat 37 = 37 := rfl
  rw [f_X7_tick_13]
  simp (disch := omega) only [gd_t, bd_s, nm_W, nm_I, I_add, I_sub, I_mul, I_neg, I_le_t, I_le_f, I_lt_t, I_lt_f, I_eq_t, I_eq_f, I_inb', I_ix', Int.toNat_natCast, decide_true, decide_false, Bool.not_false, Bool.not_true, if_true, if_false, wi_eq, wi_eq', wi_ne, wi_row, wi_2, N0, N1, N2, N3, N4, N5, N6, N7, N8, N9, N10, N11, N12, N13, N14, N15, N16, N17, N18, N19, N20, N21, N22, N23, N24, N25, N26, N27, N28, N29, N30, N31, N32, N33, N34, N35, N36, N37, N38, N39, N40, N41, N42, N43, N45, N48, N57, N59, N88, N89, N97, N99, N120, N121, N122, N179, N200, N255, N300, N400, N880, N900, N999, N1019, N50000000, N100000000, N1000000000, N2147483647, N2147483648, h15, w0, w37, h37, e0, f_X7_tick_80]
theorem ev_end {k : Nat} {τ : Wd} {E : Nat} {z : Int} (hE : E ≤ 10) (h15 : τ.1 102 15 = I (E : Int)) (hz : z = (E : Int)) : f_X7_tick_13 (k + 1) (I z) τ = f_X7_tick_90 FU (I 0) (I 0) τ := by
  rw [f_X7_tick_13]
  simp (disch := omega) only [gd_t, bd_s, nm_W, nm_I, I_add, I_sub, I_mul, I_neg, I_le_t, I_le_f, I_lt_t, I_lt_f, I_eq_t, I_eq_f, I_inb', I_ix', Int.toNat_natCast, decide_true, decide_false, Bool.not_false, Bool.not_true, if_true, if_false, wi_eq, wi_eq', wi_ne, wi_row, wi_2, N0, N1, N2, N3, N4, N5, N6, N7, N8, N9, N10, N11, N12, N13, N14, N15, N16, N17, N18, N19, N20, N21, N22, N23, N24, N25, N26, N27, N28, N29, N30, N31, N32, N33, N34, N35, N36, N37, N38, N39, N40, N41, N42, N43, N45, N48, N57, N59, N88, N89, N97, N99, N120, N121, N122, N179, N200, N255, N300, N400, N880, N900, N999, N1019, N50000000, N100000000, N1000000000, N2147483647, N2147483648, h15]
theorem ev_rest {m V E : Nat} {σ τ : Wd} {lv : Nat → Nat} {et : Nat → Int} {tt : Int} (hQ : QE m σ τ V E lv et) (h37 : τ.1 112 37 = I tt) (t0 : 0 ≤ tt) (t1 : tt ≤ 2000000) : ∀ (rr i k : Nat) (z : Int), z = (i : Int) → i + rr = E → rr < k → (∀ j, i ≤ j → j < E → et j ≠ tt) → f_X7_tick_13 k (I z) τ = f_X7_tick_90 FU (I 0) (I 0) τ
  | 0, i, k + 1, z, hz, hi, _, _ => ev_end hQ.1 hQ.2.2.1 (by omega)
  | rr + 1, i, k + 1, z, hz, hi, hk, hn => by
    subst hz
    obtain ⟨a, b, z, h1, h2, h3, h4, h5, h6, h7, h8, h9⟩ := hQ.2.2.2.1 i (by omega)
    rw [ev_miss hQ.1 (by omega) hQ.2.2.1 h37 t0 t1 h8 h5 h6 (hn i (Nat.le_refl _) (by omega))]
    exact ev_rest hQ h37 t0 t1 rr (i + 1) k _ (by omega) (by omega) (by omega) (fun j g1 g2 => hn j (by omega) g2)
theorem ev_pre {m V E : Nat} {σ τ : Wd} {lv : Nat → Nat} {et : Nat → Int} {tt : Int} (hQ : QE m σ τ V E lv et) (h37 : τ.1 112 37 = I tt) (t0 : 0 ≤ tt) (t1 : tt ≤ 2000000) : ∀ (rr i k : Nat) (z : Int), z = (i : Int) → i + rr ≤ E → (∀ j, i ≤ j → j < i + rr → et j ≠ tt) → f_X7_tick_13 (k + rr) (I z) τ = f_X7_tick_13 k (I ((i + rr : Nat) : Int)) τ
  | 0, i, k, z, hz, hi, _ => by rw [hz]; rfl
  | rr + 1, i, k, z, hz, hi, hn => by
    subst hz
    obtain ⟨a, b, z, h1, h2, h3, h4, h5, h6, h7, h8, h9⟩ := hQ.2.2.2.1 i (by omega)
    rw [show k + (rr + 1) = (k + rr) + 1 from rfl, ev_miss hQ.1 (by omega) hQ.2.2.1 h37 t0 t1 h8 h5 h6 (hn i (Nat.le_refl _) (by omega)), ev_pre hQ h37 t0 t1 rr (i + 1) k _ (by omega) (by omega) (fun j g1 g2 => hn j (by omega) (by omega))]
    congr 2
    omega
theorem cv_hit {m r k i E : Nat} {σ : Wd} {tt z : Int} {sl : Nat} (hmr : m + 12 < r) (hE : E ≤ 10) (hi : i < E) (h4 : σ.1 m 4 = I (E : Int)) (h7 : σ.1 r 7 = I (i : Int)) (h1 : σ.1 r 1 = I tt) (e0 : σ.1 (m + 10) i = I tt) (e1 : σ.1 (m + 11) i = I (sl : Int)) (e2 : σ.1 (m + 12) i = I z) (hs : sl < 30) (t0 : 0 ≤ tt) (t1 : tt ≤ 2000000) :
    f_X4_tick_10 r m (k + 1) σ = f_X4_tick_10 r m k (wi (wi σ (m + 9) sl (I z)) r 7 (I ((i : Int) + 1))) := by
  rw [f_X4_tick_10]
  simp (disch := omega) only [gd_t, bd_s, nm_W, nm_I, I_add, I_sub, I_mul, I_neg, I_le_t, I_le_f, I_lt_t, I_lt_f, I_eq_t, I_eq_f, I_inb', I_ix', Int.toNat_natCast, decide_true, decide_false, Bool.not_false, Bool.not_true, if_true, if_false, wi_eq, wi_eq', wi_ne, wi_row, wi_2, N0, N1, N2, N3, N4, N5, N6, N7, N8, N9, N10, N11, N12, N13, N14, N15, N16, N17, N18, N19, N20, N21, N22, N23, N24, N25, N26, N27, N28, N29, N30, N31, N32, N33, N34, N35, N36, N37, N38, N39, N40, N41, N42, N43, N45, N48, N57, N59, N88, N89, N97, N99, N120, N121, N122, N179, N200, N255, N300, N400, N880, N900, N999, N1019, N50000000, N100000000, N1000000000, N2147483647, N2147483648, h4, h7, h1, e0, e1, e2]
theorem cv_stop {m r k i E : Nat} {σ : Wd} {tt e : Int} (hE : E ≤ 10) (hi : i < E) (h4 : σ.1 m 4 = I (E : Int)) (h7 : σ.1 r 7 = I (i : Int)) (h1 : σ.1 r 1 = I tt) (e0 : σ.1 (m + 10) i = I e) (t0 : 0 ≤ tt) (te : tt < e) (e1 : e ≤ 200) : f_X4_tick_10 r m (k + 1) σ = f_X4_tick_73 r m σ := by
  rw [f_X4_tick_10]
  simp (disch := omega) only [gd_t, bd_s, nm_W, nm_I, I_add, I_sub, I_mul, I_neg, I_le_t, I_le_f, I_lt_t, I_lt_f, I_eq_t, I_eq_f, I_inb', I_ix', Int.toNat_natCast, decide_true, decide_false, Bool.not_false, Bool.not_true, if_true, if_false, wi_eq, wi_eq', wi_ne, wi_row, wi_2, N0, N1, N2, N3, N4, N5, N6, N7, N8, N9, N10, N11, N12, N13, N14, N15, N16, N17, N18, N19, N20, N21, N22, N23, N24, N25, N26, N27, N28, N29, N30, N31, N32, N33, N34, N35, N36, N37, N38, N39, N40, N41, N42, N43, N45, N48, N57, N59, N88, N89, N97, N99, N120, N121, N122, N179, N200, N255, N300, N400, N880, N900, N999, N1019, N50000000, N100000000, N1000000000, N2147483647, N2147483648, h4, h7, h1, e0]
theorem cv_end {m r k E : Nat} {σ : Wd} (hE : E ≤ 10) (h4 : σ.1 m 4 = I (E : Int)) (h7 : σ.1 r 7 = I (E : Int)) : f_X4_tick_10 r m (k + 1) σ = f_X4_tick_73 r m σ := by
  rw [f_X4_tick_10]
  simp (disch := omega) only [gd_t, bd_s, nm_W, nm_I, I_add, I_sub, I_mul, I_neg, I_le_t, I_le_f, I_lt_t, I_lt_f, I_eq_t, I_eq_f, I_inb', I_ix', Int.toNat_natCast, decide_true, decide_false, Bool.not_false, Bool.not_true, if_true, if_false, wi_eq, wi_eq', wi_ne, wi_row, wi_2, N0, N1, N2, N3, N4, N5, N6, N7, N8, N9, N10, N11, N12, N13, N14, N15, N16, N17, N18, N19, N20, N21, N22, N23, N24, N25, N26, N27, N28, N29, N30, N31, N32, N33, N34, N35, N36, N37, N38, N39, N40, N41, N42, N43, N45, N48, N57, N59, N88, N89, N97, N99, N120, N121, N122, N179, N200, N255, N300, N400, N880, N900, N999, N1019, N50000000, N100000000, N1000000000, N2147483647, N2147483648, h4, h7]
set_option maxHeartbeats 1000000 in
theorem ev_ok {m r V E : Nat} {p L W : Int} {dl pl et : Nat → Int} {tt : Int} (hm : 10 < m) (hmr : m + 12 < r) (t0 : 0 ≤ tt) (t1 : tt ≤ 1000000) :
    ∀ (rr i n1 k2 : Nat) (d : MD) (σ τ : Wd), i + rr = E → rr < n1 → rr < k2 → QM m σ τ V d p L W dl pl → QE m σ τ V E d.lv et → LR (r + 9) σ τ V d → σ.1 r 1 = I tt → τ.1 112 37 = I tt → σ.1 r 7 = I (i : Int) → (∀ j, i ≤ j → j < E → tt ≤ et j) →
      ∃ (σ' τ' : Wd) (d' : MD) (np : Nat), f_X4_tick_10 r m n1 σ = f_X4_tick_73 r m σ' ∧ f_X7_tick_13 k2 (I (i : Int)) τ = f_X7_tick_90 FU (I 0) (I 0) τ' ∧ QM m σ' τ' V d' p L W dl pl ∧ LR (r + 9) σ' τ' V d' ∧ (d'.1 = d.1 ∧ d'.lv = d.lv ∧ d'.pr = d.pr) ∧ σ'.1 r 7 = I (np : Int) ∧ i ≤ np ∧ np ≤ E ∧ (∀ j, i ≤ j → j < np → et j ≤ tt) ∧ (∀ j, np ≤ j → j < E → tt < et j)
        ∧ ((∀ k, k ≠ m + 9 → k ≠ r → σ'.1 k = σ.1 k) ∧ (∀ i, i ≠ 7 → σ'.1 r i = σ.1 r i) ∧ σ'.2 = σ.2) ∧ ((∀ k, k ≠ 112 → τ'.1 k = τ.1 k) ∧ (∀ i, 30 ≤ i → τ'.1 112 i = τ.1 112 i) ∧ τ'.2 = τ.2)
  | 0, i, n1 + 1, k2 + 1, d, σ, τ, hi, _, _, hM, hQ, hL, s1, t37, s7, hj => by
    have hi : i = E := by omega
    subst hi
    exact ⟨σ, τ, d, i, cv_end hQ.1 hQ.2.1 s7, ev_end hQ.1 hQ.2.2.1 rfl, hM, hL, ⟨rfl, rfl, rfl⟩, s7, Nat.le_refl _, Nat.le_refl _, fun j g1 g2 => absurd g2 (by omega), fun j g1 g2 => absurd g2 (by omega), ⟨fun _ _ _ => rfl, fun _ _ => rfl, rfl⟩, ⟨fun _ _ => rfl, fun _ _ => rfl, rfl⟩⟩
  | rr + 1, i, n1 + 1, k2 + 1, d, σ, τ, hi, hn1, hk2, hM, hQ, hL, s1, t37, s7, hj => by
    obtain ⟨a, b, z, h1, h2, h3, h4, h5, h6, h7, h8, h9, h10, h11, h12, h13⟩ := hQ.2.2.2.1 i (by omega)
    have h56 := lv6 hM.1 a h1
    have hV := hM.1.1
    by_cases c : et i = tt
    · obtain ⟨σ1, hσ1⟩ : ∃ s, s = wi (wi σ (m + 9) (6 * a + b) (I z)) r 7 (I ((i + 1 : Nat) : Int)) := ⟨_, rfl⟩
      obtain ⟨τ1, hτ1⟩ : ∃ s, s = wi τ 112 (6 * a + b) (I z) := ⟨_, rfl⟩
      have fc : ∀ k, k ≠ m + 9 → k ≠ r → σ1.1 k = σ.1 k := fun k g1 g2 => by rw [hσ1, wi_row g2, wi_row g1]
      have fi : ∀ i, i ≠ 7 → σ1.1 r i = σ.1 r i := fun i g => by rw [hσ1, wi_ne g, wi_row (by omega)]
      have fk : ∀ k, k ≠ 112 → τ1.1 k = τ.1 k := fun k g => by rw [hτ1, wi_row g]
      have ft : ∀ i, 30 ≤ i → τ1.1 112 i = τ.1 112 i := fun i g => by rw [hτ1, wi_ne (by omega)]
      have cv1 : CV m σ1 V (dz d (6 * a + b) z) := CV_rows (CV_dz (i := 6 * a + b) (x := z) hM.2.1) (fun k g1 g2 => by rw [hσ1, wi_row (by omega)])
      have rv1 : RV τ1 V (dz d (6 * a + b) z) := by rw [hτ1]; exact RV_dz hM.2.2.1 (by omega)
      have M1 : QM m σ1 τ1 V (dz d (6 * a + b) z) p L W dl pl := QM_congr hM (MDok_dz hM.1 h3 h4) cv1 rv1 (fun i hi => by rw [fc m (by omega) (by omega)]) (fc _ (by omega) (by omega)) (fc _ (by omega) (by omega)) (by rw [fk 102 (by decide)]) (by rw [fk 102 (by decide)]) (fk 103 (by decide)) (ft 35 (by omega)) (fun v hv => ft _ (by omega))
      have E1 : QE m σ1 τ1 V E (dz d (6 * a + b) z).lv et := QE_congr hQ (by rw [fc m (by omega) (by omega)]) (fc _ (by omega) (by omega)) (fc _ (by omega) (by omega)) (fc _ (by omega) (by omega)) (by rw [fk 102 (by decide)]) (fk 105 (by decide))
      obtain ⟨σ', τ', d', np, q1, q2, q3, q4, q5, q6, q7, q8, q9, q10, ⟨f1, f2, f3⟩, ⟨f4, f5, f6⟩⟩ := ev_ok hm hmr t0 t1 rr (i + 1) n1 k2 (dz d (6 * a + b) z) σ1 τ1 (by omega) (by omega) (by omega) M1 E1 (LR_congr hL rfl rfl (fun k g1 g2 => fc k (by omega) (by omega)) (fun i hi => ft i (by omega)))
        (by rw [fi 1 (by decide)]; exact s1) (by rw [ft 37 (by omega)]; exact t37) (by rw [hσ1, wi_eq]) (fun j g1 g2 => hj j (by omega) g2)
      refine ⟨σ', τ', d', np, ?_, ?_, q3, q4, q5, q6, by omega, q8, fun j g1 g2 => ?_, q10, ⟨fun k g1 g2 => by rw [f1 k g1 g2, fc k g1 g2], fun i g => by rw [f2 i g, fi i g], by rw [f3, hσ1, wi_2, wi_2]⟩, ⟨fun k g => by rw [f4 k g, fk k g], fun i g => by rw [f5 i g, ft i g], by rw [f6, hτ1, wi_2]⟩⟩
      · rw [← q1, hσ1]
        exact cv_hit hmr hQ.1 (by omega) hQ.2.1 s7 s1 (by rw [← c]; exact h7) h9 h12 (by omega) t0 (by omega)
      · rw [← q2, hτ1]
        exact ev_hit (V := V) (T := 0) hQ.1 (by omega) hQ.2.2.1 t37 (by rw [← c]; exact h8) h10 h11 h13 (by omega)
      · by_cases e : j = i
        · rw [e]; omega
        · exact q9 j (by omega) g2
    · have lt : tt < et i := by have := hj i (Nat.le_refl _) (by omega); omega
      have all : ∀ j, i ≤ j → j < E → tt < et j := fun j g1 g2 => by
        have := et_mono hQ.2.2.2.2 (j - i) i (by omega)
        rw [show i + (j - i) = j from by omega] at this
        omega
      exact ⟨σ, τ, d, i, cv_stop hQ.1 (by omega) hQ.2.1 s7 s1 h7 t0 lt h6, ev_rest hQ t37 t0 (by omega) (rr + 1) i (k2 + 1) _ rfl hi hk2 (fun j g1 g2 => by have := all j g1 g2; omega), hM, hL, ⟨rfl, rfl, rfl⟩, s7, Nat.le_refl _, by omega, fun j g1 g2 => absurd g2 (by omega), all, ⟨fun _ _ _ => rfl, fun _ _ => rfl, rfl⟩, ⟨fun _ _ => rfl, fun _ _ => rfl, rfl⟩⟩
