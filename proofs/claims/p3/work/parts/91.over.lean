/-! PURE: is it over; what is told of the run -/
def OF (τ τ' : Wd) : Prop := (∀ k, k ≠ 102 → k ≠ 116 → k ≠ 117 → τ'.1 k = τ.1 k) ∧ (∀ i, i ≠ 37 → i ≠ 38 → τ'.1 102 i = τ.1 102 i) ∧ τ'.2 = τ.2
theorem OF_refl {τ : Wd} : OF τ τ := ⟨fun _ _ _ _ => rfl, fun _ _ _ => rfl, rfl⟩
theorem QQ_congr {m r V E : Nat} {d : MD} {σ τ σ' τ' : Wd} {p L W : Int} {dl pl et : Nat → Int} {b : Bool} {t s rd : Int} {h n g : Nat → Int} (hQ : QQ m r σ τ V E d p L W dl pl et b t s rd h n g) (hmr : m + 12 < r)
    (c : ∀ k, m ≤ k → k ≤ m + 12 → σ'.1 k = σ.1 k) (c2 : ∀ k, r ≤ k → k ≤ r + 12 → σ'.1 k = σ.1 k) (e2 : ∀ i, 12 ≤ i → i ≤ 15 → τ'.1 102 i = τ.1 102 i) (e3 : τ'.1 103 = τ.1 103) (e4 : τ'.1 104 = τ.1 104) (e5 : τ'.1 105 = τ.1 105) (e6 : τ'.1 112 = τ.1 112) : QQ m r σ' τ' V E d p L W dl pl et b t s rd h n g := by
  obtain ⟨hM, hE, hR, ⟨np, np1, np2, np3, np4⟩, hP, hL, hn, ⟨r6, rd0, rd1⟩, hb, hz⟩ := hQ
  refine ⟨QM_rows hM (fun k g1 g2 => c k g1 (by omega)) (fun i g1 g2 => e2 i g1 (by omega)) e3 e4 (fun i _ => by rw [e6]), QE_congr hE (by rw [c m (by omega) (by omega)]) (c _ (by omega) (by omega)) (c _ (by omega) (by omega)) (c _ (by omega) (by omega)) (e2 15 (by decide) (by decide)) e5, ?_, ⟨np, by rw [c2 r (by omega) (by omega)]; exact np1, np2, np3, np4⟩, fun w hw => QP_congr (hP w hw) (fun k g1 g2 => by rw [c2 k (by omega) (by omega)]) (fun i _ _ => by rw [e6]) e3, LR_congr hL rfl rfl (fun k g1 g2 => c2 k (by omega) (by omega)) (fun i _ => by rw [e6]), hn, ⟨by rw [c2 r (by omega) (by omega)]; exact r6, rd0, rd1⟩, hb, hz⟩
  unfold QR
  rw [c2 r (by omega) (by omega), e6]
  exact hR
theorem QQ_OF {m r V E : Nat} {d : MD} {σ τ τ' : Wd} {p L W : Int} {dl pl et : Nat → Int} {b : Bool} {t s rd : Int} {h n g : Nat → Int} (hQ : QQ m r σ τ V E d p L W dl pl et b t s rd h n g) (hmr : m + 12 < r) (o : OF τ τ') : QQ m r σ τ' V E d p L W dl pl et b t s rd h n g :=
  QQ_congr hQ hmr (fun _ _ _ => rfl) (fun _ _ _ => rfl) (fun i g1 g2 => o.2.1 i (by omega) (by omega)) (o.1 103 (by decide) (by decide) (by decide)) (o.1 104 (by decide) (by decide) (by decide)) (o.1 105 (by decide) (by decide) (by decide)) (o.1 112 (by decide) (by decide) (by decide))
theorem tc_step {τ : Wd} {E i k : Nat} {t e acc : Int} (hE : E ≤ 10) (hi : i < E) (h15 : τ.1 102 15 = I (E : Int)) (h37 : τ.1 112 37 = I t) (t0 : 0 ≤ t) (t1 : t ≤ 2000000) (e0 : τ.1 105 (4 * i) = I e) (b0 : 1 ≤ e) (b1 : e ≤ 200) : f_X7_toCome_4 (k + 1) (I acc) (I (i : Int)) τ = f_X7_toCome_4 k (I (acc + (if e ≤ t then 0 else 1))) (I ((i : Int) + 1)) τ := by
  have w0 : ((4 : Int) * (i : Int)).toNat = 4 * i := by omega
  have w37 : Int.toNat 37 = 37 := rfl
  by_cases c : e ≤ t
  · rw [if_pos c, f_X7_toCome_4]
    simp (disch := omega) only [gd_t, bd_s, nm_W, nm_I, I_add, I_sub, I_mul, I_neg, I_le_t, I_le_f, I_lt_t, I_lt_f, I_eq_t, I_eq_f, I_inb', I_ix', Int.toNat_natCast, decide_true, decide_false, Bool.not_false, Bool.not_true, if_true, if_false, wi_eq, wi_eq', wi_ne, wi_row, wi_2, N0, N1, N2, N3, N4, N5, N6, N7, N8, N9, N10, N11, N12, N13, N14, N15, N16, N17, N18, N19, N20, N21, N22, N23, N24, N25, N26, N27, N28, N29, N30, N31, N32, N33, N34, N35, N36, N37, N38, N39, N40, N41, N42, N43, N45, N48, N57, N59, N88, N89, N97, N99, N120, N121, N122, N179, N200, N255, N300, N400, N880, N900, N999, N1019, N50000000, N100000000, N1000000000, N2147483647, N2147483648, h15, w0, w37, h37, e0, f_X7_toCome_36]
  · rw [if_neg c, f_X7_toCome_4]
    simp (disch := omega) only [gd_t, bd_s, nm_W, nm_I, I_add, I_sub, I_mul, I_neg, I_le_t, I_le_f, I_lt_t, I_lt_f, I_eq_t, I_eq_f, I_inb', I_ix', Int.toNat_natCast, decide_true, decide_false, Bool.not_false, Bool.not_true, if_true, if_false, wi_eq, wi_eq', wi_ne, wi_row, wi_2, N0, N1, N2, N3, N4, N5, N6, N7, N8, N9, N10, N11, N12, N13, N14, N15, N16, N17, N18, N19, N20, N21, N22, N23, N24, N25, N26, N27, N28, N29, N30, N31, N32, N33, N34, N35, N36, N37, N38, N39, N40, N41, N42, N43, N45, N48, N57, N59, N88, N89, N97, N99, N120, N121, N122, N179, N200, N255, N300, N400, N880, N900, N999, N1019, N50000000, N100000000, N1000000000, N2147483647, N2147483648, h15, w0, w37, h37, e0, f_X7_toCome_36]
theorem tc_ok {m V E np : Nat} {σ τ : Wd} {lv : Nat → Nat} {et : Nat → Int} {t : Int} (hQ : QE m σ τ V E lv et) (h37 : τ.1 112 37 = I t) (t0 : 0 ≤ t) (t1 : t ≤ 2000000) (n2 : np ≤ E) (n3 : ∀ i, i < np → et i ≤ t) (n4 : ∀ i, np ≤ i → i < E → t < et i) :
    ∀ (rr i k : Nat) (acc z : Int), z = (i : Int) → i + rr = E → rr < k → acc = (if i ≤ np then 0 else (i : Int) - (np : Int)) → f_X7_toCome_4 k (I acc) (I z) τ = some (I ((E : Int) - (np : Int)), τ)
  | 0, i, k + 1, acc, z, hz, hi, _, ha => by
    have hE := hQ.1
    have h15 := hQ.2.2.1
    have e : acc = (E : Int) - (np : Int) := by
      split at ha <;> omega
    clear hQ n3 n4 ha
    rw [f_X7_toCome_4]
    simp (disch := omega) only [gd_t, bd_s, nm_W, nm_I, I_add, I_sub, I_mul, I_neg, I_le_t, I_le_f, I_lt_t, I_lt_f, I_eq_t, I_eq_f, I_inb', I_ix', Int.toNat_natCast, decide_true, decide_false, Bool.not_false, Bool.not_true, if_true, if_false, wi_eq, wi_eq', wi_ne, wi_row, wi_2, N0, N1, N2, N3, N4, N5, N6, N7, N8, N9, N10, N11, N12, N13, N14, N15, N16, N17, N18, N19, N20, N21, N22, N23, N24, N25, N26, N27, N28, N29, N30, N31, N32, N33, N34, N35, N36, N37, N38, N39, N40, N41, N42, N43, N45, N48, N57, N59, N88, N89, N97, N99, N120, N121, N122, N179, N200, N255, N300, N400, N880, N900, N999, N1019, N50000000, N100000000, N1000000000, N2147483647, N2147483648, h15]
    rw [e]
  | rr + 1, i, k + 1, acc, z, hz, hi, hk, ha => by
    subst hz
    obtain ⟨a, b, z, h1, h2, h3, h4, h5, h6, h7, h8, h9⟩ := hQ.2.2.2.1 i (by omega)
    rw [tc_step hQ.1 (by omega) hQ.2.2.1 h37 t0 t1 h8 h5 h6]
    refine tc_ok hQ h37 t0 t1 n2 n3 n4 rr (i + 1) k _ _ (by omega) (by omega) (by omega) ?_
    by_cases c : i < np
    · have := n3 i c
      rw [if_pos this, ha, if_pos (by omega), if_pos (by omega)]
      rfl
    · have := n4 i (by omega) (by omega)
      rw [if_neg (by omega), ha, if_neg (show ¬ i + 1 ≤ np by omega)]
      split <;> omega
theorem tcAll {m V E np : Nat} {σ τ : Wd} {lv : Nat → Nat} {et : Nat → Int} {t : Int} (hQ : QE m σ τ V E lv et) (h37 : τ.1 112 37 = I t) (t0 : 0 ≤ t) (t1 : t ≤ 2000000) (n2 : np ≤ E) (n3 : ∀ i, i < np → et i ≤ t) (n4 : ∀ i, np ≤ i → i < E → t < et i) : f_X7_toCome τ = some (I ((E : Int) - (np : Int)), τ) := by
  have := hQ.1
  exact tc_ok hQ h37 t0 t1 n2 n3 n4 E 0 FU 0 0 rfl (by omega) (by show _ < 6000; omega) (by rw [if_pos (by omega)])
/-! by cases -/
theorem ov_c {m r : Nat} {σ : Wd} {B X s np E H : Int} (h0 : σ.1 r 0 = I B) (e1 : f_X4_nothingUnderWay r m σ = some (I X, σ)) (h2 : σ.1 r 2 = I s) (h7 : σ.1 r 7 = I np) (h4 : σ.1 m 4 = I E) (e2 : f_X3_hasLotWithin m (I s) σ = some (I H, σ)) (b0 : 0 ≤ B ∧ B ≤ 1) (x0 : 0 ≤ X ∧ X ≤ 1) (s0 : 0 ≤ s ∧ s ≤ 120) (n0 : 0 ≤ np ∧ np ≤ 10) (E0 : 0 ≤ E ∧ E ≤ 10) (H0 : 0 ≤ H ∧ H ≤ 1) :
    f_X4_isOver r m σ = some (I (bn (decide (B ≠ 0 ∧ X ≠ 0 ∧ (s = 0 ∨ (np = E ∧ H = 0))))), σ) := by
  by_cases c1 : B = 0
  · rw [decide_eq_false (fun q => q.1 c1), bn_f]
    unfold f_X4_isOver
    simp (disch := omega) only [gd_t, bd_s, nm_W, nm_I, I_add, I_sub, I_mul, I_neg, I_le_t, I_le_f, I_lt_t, I_lt_f, I_eq_t, I_eq_f, I_inb', I_ix', Int.toNat_natCast, decide_true, decide_false, Bool.not_false, Bool.not_true, if_true, if_false, wi_eq, wi_eq', wi_ne, wi_row, wi_2, N0, N1, N2, N3, N4, N5, N6, N7, N8, N9, N10, N11, N12, N13, N14, N15, N16, N17, N18, N19, N20, N21, N22, N23, N24, N25, N26, N27, N28, N29, N30, N31, N32, N33, N34, N35, N36, N37, N38, N39, N40, N41, N42, N43, N45, N48, N57, N59, N88, N89, N97, N99, N120, N121, N122, N179, N200, N255, N300, N400, N880, N900, N999, N1019, N50000000, N100000000, N1000000000, N2147483647, N2147483648, h0, f_X4_isOver_15, isb_0]
  · by_cases c2 : X = 0
    · rw [decide_eq_false (fun q => q.2.1 c2), bn_f]
      unfold f_X4_isOver
      simp (disch := omega) only [gd_t, bd_s, nm_W, nm_I, I_add, I_sub, I_mul, I_neg, I_le_t, I_le_f, I_lt_t, I_lt_f, I_eq_t, I_eq_f, I_inb', I_ix', Int.toNat_natCast, decide_true, decide_false, Bool.not_false, Bool.not_true, if_true, if_false, wi_eq, wi_eq', wi_ne, wi_row, wi_2, N0, N1, N2, N3, N4, N5, N6, N7, N8, N9, N10, N11, N12, N13, N14, N15, N16, N17, N18, N19, N20, N21, N22, N23, N24, N25, N26, N27, N28, N29, N30, N31, N32, N33, N34, N35, N36, N37, N38, N39, N40, N41, N42, N43, N45, N48, N57, N59, N88, N89, N97, N99, N120, N121, N122, N179, N200, N255, N300, N400, N880, N900, N999, N1019, N50000000, N100000000, N1000000000, N2147483647, N2147483648, h0, e1, f_X4_isOver_15, isb_0]
    · by_cases c3 : s = 0
      · rw [decide_eq_true ⟨c1, c2, Or.inl c3⟩, bn_t]
        unfold f_X4_isOver
        simp (disch := omega) only [gd_t, bd_s, nm_W, nm_I, I_add, I_sub, I_mul, I_neg, I_le_t, I_le_f, I_lt_t, I_lt_f, I_eq_t, I_eq_f, I_inb', I_ix', Int.toNat_natCast, decide_true, decide_false, Bool.not_false, Bool.not_true, if_true, if_false, wi_eq, wi_eq', wi_ne, wi_row, wi_2, N0, N1, N2, N3, N4, N5, N6, N7, N8, N9, N10, N11, N12, N13, N14, N15, N16, N17, N18, N19, N20, N21, N22, N23, N24, N25, N26, N27, N28, N29, N30, N31, N32, N33, N34, N35, N36, N37, N38, N39, N40, N41, N42, N43, N45, N48, N57, N59, N88, N89, N97, N99, N120, N121, N122, N179, N200, N255, N300, N400, N880, N900, N999, N1019, N50000000, N100000000, N1000000000, N2147483647, N2147483648, h0, e1, h2, f_X4_isOver_46, f_X4_isOver_51, isb_1]
      · by_cases c4 : np = E
        · by_cases c5 : H = 0
          · rw [decide_eq_true ⟨c1, c2, Or.inr ⟨c4, c5⟩⟩, bn_t]
            unfold f_X4_isOver
            simp (disch := omega) only [gd_t, bd_s, nm_W, nm_I, I_add, I_sub, I_mul, I_neg, I_le_t, I_le_f, I_lt_t, I_lt_f, I_eq_t, I_eq_f, I_inb', I_ix', Int.toNat_natCast, decide_true, decide_false, Bool.not_false, Bool.not_true, if_true, if_false, wi_eq, wi_eq', wi_ne, wi_row, wi_2, N0, N1, N2, N3, N4, N5, N6, N7, N8, N9, N10, N11, N12, N13, N14, N15, N16, N17, N18, N19, N20, N21, N22, N23, N24, N25, N26, N27, N28, N29, N30, N31, N32, N33, N34, N35, N36, N37, N38, N39, N40, N41, N42, N43, N45, N48, N57, N59, N88, N89, N97, N99, N120, N121, N122, N179, N200, N255, N300, N400, N880, N900, N999, N1019, N50000000, N100000000, N1000000000, N2147483647, N2147483648, h0, e1, h2, h7, h4, e2, f_X4_isOver_46, f_X4_isOver_51, isb_1]
          · rw [decide_eq_false (by omega), bn_f]
            unfold f_X4_isOver
            simp (disch := omega) only [gd_t, bd_s, nm_W, nm_I, I_add, I_sub, I_mul, I_neg, I_le_t, I_le_f, I_lt_t, I_lt_f, I_eq_t, I_eq_f, I_inb', I_ix', Int.toNat_natCast, decide_true, decide_false, Bool.not_false, Bool.not_true, if_true, if_false, wi_eq, wi_eq', wi_ne, wi_row, wi_2, N0, N1, N2, N3, N4, N5, N6, N7, N8, N9, N10, N11, N12, N13, N14, N15, N16, N17, N18, N19, N20, N21, N22, N23, N24, N25, N26, N27, N28, N29, N30, N31, N32, N33, N34, N35, N36, N37, N38, N39, N40, N41, N42, N43, N45, N48, N57, N59, N88, N89, N97, N99, N120, N121, N122, N179, N200, N255, N300, N400, N880, N900, N999, N1019, N50000000, N100000000, N1000000000, N2147483647, N2147483648, h0, e1, h2, h7, h4, e2, f_X4_isOver_50, f_X4_isOver_51, isb_0]
        · rw [decide_eq_false (by omega), bn_f]
          unfold f_X4_isOver
          simp (disch := omega) only [gd_t, bd_s, nm_W, nm_I, I_add, I_sub, I_mul, I_neg, I_le_t, I_le_f, I_lt_t, I_lt_f, I_eq_t, I_eq_f, I_inb', I_ix', Int.toNat_natCast, decide_true, decide_false, Bool.not_false, Bool.not_true, if_true, if_false, wi_eq, wi_eq', wi_ne, wi_row, wi_2, N0, N1, N2, N3, N4, N5, N6, N7, N8, N9, N10, N11, N12, N13, N14, N15, N16, N17, N18, N19, N20, N21, N22, N23, N24, N25, N26, N27, N28, N29, N30, N31, N32, N33, N34, N35, N36, N37, N38, N39, N40, N41, N42, N43, N45, N48, N57, N59, N88, N89, N97, N99, N120, N121, N122, N179, N200, N255, N300, N400, N880, N900, N999, N1019, N50000000, N100000000, N1000000000, N2147483647, N2147483648, h0, e1, h2, h7, h4, f_X4_isOver_50, f_X4_isOver_51, isb_0]
theorem ov_r {τ τ1 : Wd} {B X s T U : Int} (h0 : τ.1 112 36 = I B) (e1 : f_X7_isUnderWay τ = some (I X, τ)) (h2 : τ.1 112 38 = I s) (e3 : f_X7_toCome τ = some (I T, τ)) (e2 : s ≠ 0 → f_X7_laysBest (I s) (I (-1)) τ = some (0, τ1)) (e4 : τ1.1 102 37 = I U) (b0 : 0 ≤ B ∧ B ≤ 1) (x0 : 0 ≤ X ∧ X ≤ 1) (s0 : 0 ≤ s ∧ s ≤ 120) (T0 : 0 ≤ T ∧ T ≤ 10) (U0 : 0 ≤ U ∧ U ≤ 120) :
    f_X7_isOver τ = some (I (bn (decide (B ≠ 0 ∧ X = 0 ∧ (s = 0 ∨ (T = 0 ∧ U = 0))))), τ) ∨ f_X7_isOver τ = some (I (bn (decide (B ≠ 0 ∧ X = 0 ∧ (s = 0 ∨ (T = 0 ∧ U = 0))))), τ1) := by
  have w36 : Int.toNat 36 = 36 := rfl
  have w38 : Int.toNat 38 = 38 := rfl
  by_cases c1 : B = 0
  · refine Or.inl ?_
    rw [decide_eq_false (fun q => q.1 c1), bn_f]
    unfold f_X7_isOver
    simp (disch := omega) only [gd_t, bd_s, nm_W, nm_I, I_add, I_sub, I_mul, I_neg, I_le_t, I_le_f, I_lt_t, I_lt_f, I_eq_t, I_eq_f, I_inb', I_ix', Int.toNat_natCast, decide_true, decide_false, Bool.not_false, Bool.not_true, if_true, if_false, wi_eq, wi_eq', wi_ne, wi_row, wi_2, N0, N1, N2, N3, N4, N5, N6, N7, N8, N9, N10, N11, N12, N13, N14, N15, N16, N17, N18, N19, N20, N21, N22, N23, N24, N25, N26, N27, N28, N29, N30, N31, N32, N33, N34, N35, N36, N37, N38, N39, N40, N41, N42, N43, N45, N48, N57, N59, N88, N89, N97, N99, N120, N121, N122, N179, N200, N255, N300, N400, N880, N900, N999, N1019, N50000000, N100000000, N1000000000, N2147483647, N2147483648, w36, h0, f_X7_isOver_17, isb_0]
  · by_cases c2 : X = 0
    · by_cases c3 : s = 0
      · refine Or.inl ?_
        rw [decide_eq_true ⟨c1, c2, Or.inl c3⟩, bn_t]
        unfold f_X7_isOver
        simp (disch := omega) only [gd_t, bd_s, nm_W, nm_I, I_add, I_sub, I_mul, I_neg, I_le_t, I_le_f, I_lt_t, I_lt_f, I_eq_t, I_eq_f, I_inb', I_ix', Int.toNat_natCast, decide_true, decide_false, Bool.not_false, Bool.not_true, if_true, if_false, wi_eq, wi_eq', wi_ne, wi_row, wi_2, N0, N1, N2, N3, N4, N5, N6, N7, N8, N9, N10, N11, N12, N13, N14, N15, N16, N17, N18, N19, N20, N21, N22, N23, N24, N25, N26, N27, N28, N29, N30, N31, N32, N33, N34, N35, N36, N37, N38, N39, N40, N41, N42, N43, N45, N48, N57, N59, N88, N89, N97, N99, N120, N121, N122, N179, N200, N255, N300, N400, N880, N900, N999, N1019, N50000000, N100000000, N1000000000, N2147483647, N2147483648, w36, w38, h0, e1, h2, isb_1]
      · have e2 := e2 c3
        by_cases c4 : T = 0
        · by_cases c5 : U = 0
          · refine Or.inr ?_
            rw [decide_eq_true ⟨c1, c2, Or.inr ⟨c4, c5⟩⟩, bn_t]
            unfold f_X7_isOver
            simp (disch := omega) only [gd_t, bd_s, nm_W, nm_I, I_add, I_sub, I_mul, I_neg, I_le_t, I_le_f, I_lt_t, I_lt_f, I_eq_t, I_eq_f, I_inb', I_ix', Int.toNat_natCast, decide_true, decide_false, Bool.not_false, Bool.not_true, if_true, if_false, wi_eq, wi_eq', wi_ne, wi_row, wi_2, N0, N1, N2, N3, N4, N5, N6, N7, N8, N9, N10, N11, N12, N13, N14, N15, N16, N17, N18, N19, N20, N21, N22, N23, N24, N25, N26, N27, N28, N29, N30, N31, N32, N33, N34, N35, N36, N37, N38, N39, N40, N41, N42, N43, N45, N48, N57, N59, N88, N89, N97, N99, N120, N121, N122, N179, N200, N255, N300, N400, N880, N900, N999, N1019, N50000000, N100000000, N1000000000, N2147483647, N2147483648, w36, w38, h0, e1, h2, e3, e2, e4, f_X7_isOver_64, isb_1]
          · refine Or.inr ?_
            rw [decide_eq_false (by omega), bn_f]
            unfold f_X7_isOver
            simp (disch := omega) only [gd_t, bd_s, nm_W, nm_I, I_add, I_sub, I_mul, I_neg, I_le_t, I_le_f, I_lt_t, I_lt_f, I_eq_t, I_eq_f, I_inb', I_ix', Int.toNat_natCast, decide_true, decide_false, Bool.not_false, Bool.not_true, if_true, if_false, wi_eq, wi_eq', wi_ne, wi_row, wi_2, N0, N1, N2, N3, N4, N5, N6, N7, N8, N9, N10, N11, N12, N13, N14, N15, N16, N17, N18, N19, N20, N21, N22, N23, N24, N25, N26, N27, N28, N29, N30, N31, N32, N33, N34, N35, N36, N37, N38, N39, N40, N41, N42, N43, N45, N48, N57, N59, N88, N89, N97, N99, N120, N121, N122, N179, N200, N255, N300, N400, N880, N900, N999, N1019, N50000000, N100000000, N1000000000, N2147483647, N2147483648, w36, w38, h0, e1, h2, e3, e2, e4, f_X7_isOver_64, isb_0]
        · refine Or.inl ?_
          rw [decide_eq_false (by omega), bn_f]
          unfold f_X7_isOver
          simp (disch := omega) only [gd_t, bd_s, nm_W, nm_I, I_add, I_sub, I_mul, I_neg, I_le_t, I_le_f, I_lt_t, I_lt_f, I_eq_t, I_eq_f, I_inb', I_ix', Int.toNat_natCast, decide_true, decide_false, Bool.not_false, Bool.not_true, if_true, if_false, wi_eq, wi_eq', wi_ne, wi_row, wi_2, N0, N1, N2, N3, N4, N5, N6, N7, N8, N9, N10, N11, N12, N13, N14, N15, N16, N17, N18, N19, N20, N21, N22, N23, N24, N25, N26, N27, N28, N29, N30, N31, N32, N33, N34, N35, N36, N37, N38, N39, N40, N41, N42, N43, N45, N48, N57, N59, N88, N89, N97, N99, N120, N121, N122, N179, N200, N255, N300, N400, N880, N900, N999, N1019, N50000000, N100000000, N1000000000, N2147483647, N2147483648, w36, w38, h0, e1, h2, e3, isb_0]
    · refine Or.inl ?_
      rw [decide_eq_false (fun q => c2 q.2.1), bn_f]
      unfold f_X7_isOver
      simp (disch := omega) only [gd_t, bd_s, nm_W, nm_I, I_add, I_sub, I_mul, I_neg, I_le_t, I_le_f, I_lt_t, I_lt_f, I_eq_t, I_eq_f, I_inb', I_ix', Int.toNat_natCast, decide_true, decide_false, Bool.not_false, Bool.not_true, if_true, if_false, wi_eq, wi_eq', wi_ne, wi_row, wi_2, N0, N1, N2, N3, N4, N5, N6, N7, N8, N9, N10, N11, N12, N13, N14, N15, N16, N17, N18, N19, N20, N21, N22, N23, N24, N25, N26, N27, N28, N29, N30, N31, N32, N33, N34, N35, N36, N37, N38, N39, N40, N41, N42, N43, N45, N48, N57, N59, N88, N89, N97, N99, N120, N121, N122, N179, N200, N255, N300, N400, N880, N900, N999, N1019, N50000000, N100000000, N1000000000, N2147483647, N2147483648, w36, h0, e1, f_X7_isOver_17, isb_0]
theorem over_ok {m r V E : Nat} {d : MD} {σ τ : Wd} {p L W : Int} {dl pl et : Nat → Int} {b : Bool} {t s rd : Int} {h n g : Nat → Int} (hQ : QQ m r σ τ V E d p L W dl pl et b t s rd h n g) :
    ∃ (τ' : Wd) (o : Bool), f_X4_isOver r m σ = some (I (bn o), σ) ∧ f_X7_isOver τ = some (I (bn o), τ') ∧ OF τ τ' := by
  obtain ⟨hM, hE, hR, ⟨np, np1, np2, np3, np4⟩, hP, -⟩ := hQ
  have h5 := hM.1.1
  have hd := hM.1
  have hE10 := hE.1
  have hp : R p := by have := hM.2.2.2.1; unfold R; omega
  have s0 := hR.2.2.1.2.2.1
  have s1 := hR.2.2.1.2.2.2
  have t0 := hR.2.1.2.2.1
  have t1 := hR.2.1.2.2.2
  have eu : f_X4_nothingUnderWay r m σ = some (I (bn (nu (σ.1 (r + 1)) V 0)), σ) := c_nu (b := r) (σ := σ) hM.2.1.1 h5 V 0 FU 0 rfl (by omega) (by show _ < 6000; omega)
  have ru : f_X7_isUnderWay τ = some (I (bn (!nu (σ.1 (r + 1)) V 0)), τ) := r_nu (τ := τ) (f := σ.1 (r + 1)) hM.2.2.1.1 h5 (fun v hv => by rw [(hP v hv).1.1, (hP v hv).1.2]) V 0 FU 0 rfl (by omega) (by show _ < 6000; omega)
  obtain ⟨q, hq⟩ := Int.eq_ofNat_of_zero_le s0
  have q120 : q ≤ 120 := by omega
  obtain ⟨τ1, b1, b2, b3, b4, b5, b6, b7⟩ := rBest (q := q) hd hp (show R (-1) by unfold R; omega) q120 hM.2.2.1 hM.2.2.2.1.2.1
  have eh := cHas (q := q) hM.2.1 hd hp hM.2.2.2.1.1 q120
  rw [← hq] at b1 eh
  have ub := bu_le (f := lcs d p (-1) V V) q
  have tc := tcAll hE hR.2.1.2.1 t0 (by omega) np2 np3 np4
  have ec := ov_c hR.1.1 eu hR.2.2.1.1 np1 hE.2.1 eh (bn_bnd _) (bn_bnd _) ⟨s0, s1⟩ ⟨by omega, by omega⟩ ⟨by omega, by omega⟩ (bn_bnd _)
  have er := ov_r hR.1.2 ru hR.2.2.1.2.1 tc (fun _ => b1) b2 (bn_bnd _) (bn_bnd _) ⟨s0, s1⟩ ⟨by omega, by omega⟩ ⟨by omega, by omega⟩
  have ee : decide (bn b ≠ 0 ∧ bn (!nu (σ.1 (r + 1)) V 0) = 0 ∧ (s = 0 ∨ ((E : Int) - (np : Int) = 0 ∧ ((bu (lcs d p (-1) V V) q : Nat) : Int) = 0))) = decide (bn b ≠ 0 ∧ bn (nu (σ.1 (r + 1)) V 0) ≠ 0 ∧ (s = 0 ∨ ((np : Int) = (E : Int) ∧ bn (decide (0 < bu (lcs d p (-1) V V) q)) = 0))) := by
    apply decide_eq_decide.mpr
    have x1 : bn (!nu (σ.1 (r + 1)) V 0) = 0 ↔ bn (nu (σ.1 (r + 1)) V 0) ≠ 0 := by cases nu (σ.1 (r + 1)) V 0 <;> decide
    have x2 : bn (decide (0 < bu (lcs d p (-1) V V) q)) = 0 ↔ bu (lcs d p (-1) V V) q = 0 := by
      by_cases c : 0 < bu (lcs d p (-1) V V) q
      · rw [decide_eq_true c, bn_t]; omega
      · rw [decide_eq_false c, bn_f]; omega
    rw [x1, x2]
    omega
  rw [ee] at er
  rcases er with er | er
  · exact ⟨τ, _, ec, er, OF_refl⟩
  · exact ⟨τ1, _, ec, er, ⟨fun k g1 g2 g3 => b5 k g1 g2 g3, b6, b7⟩⟩
