/-! PURE: what is told with no refusal; questions to the run -/
theorem GA_t {m V E : Nat} {σ τ τ' : Wd} {pres kp : Bool} {d : MD} {p L W : Int} {dl pl et : Nat → Int} {b : Bool} {t s rd : Int} {h n g : Nat → Int} {B : Int} (hG : GA m σ τ V E pres kp d p L W dl pl et b t s rd h n g B) (e1 : ∀ k, k ≠ 102 → τ'.1 k = τ.1 k) (e2 : ∀ i, i ≠ 0 → τ'.1 102 i = τ.1 102 i) : GA m σ τ' V E pres kp d p L W dl pl et b t s rd h n g B := by
  obtain ⟨g1, g2, ⟨g3, g4⟩, ⟨g5, g6, g7⟩, ⟨g8, g9, g10⟩, ⟨⟨t1, t2, t3⟩, t4⟩, ⟨tp, p1, p2, p3, p4⟩⟩ := hG
  have m50 : m = 11 ∨ m = 24 := by omega
  refine ⟨g1, g2, ⟨QQ_congr g3 (by omega) (fun _ _ _ => rfl) (fun _ _ _ => rfl) (fun i a1 a2 => e2 i (by omega)) (e1 103 (by decide)) (e1 104 (by decide)) (e1 105 (by decide)) (e1 112 (by decide)), g4⟩, ⟨g5, by rw [e2 21 (by decide)]; exact g6, g7⟩,
    ⟨g8, by rw [e2 25 (by decide)]; exact g9, fun q => ⟨(g10 q).1, KK_congr (g10 q).2 (Int.le_refl _) (fun _ _ _ => rfl) (fun _ _ _ => rfl) (fun i a1 a2 => e2 i (by omega)) (e1 103 (by decide)) (e1 104 (by decide)) (e1 105 (by decide)) (e1 113 (by decide))⟩⟩,
    ⟨⟨by rw [e2 1 (by decide)]; exact t1, fun q => by rw [e2 2 (by decide)]; exact t2 q, fun q => by rw [e2 2 (by decide)]; exact t3 q⟩, by rw [e2 33 (by decide)]; exact t4⟩, ⟨tp, p1, p2, by rw [e2 27 (by decide)]; exact p3, fun i hi => by rw [e1 115 (by decide)]; exact p4 i hi⟩⟩
theorem told_ok {σ τ : Wd} {B : Int} {x : Int32} (hG : GG σ τ B) : GG σ (wi τ 102 0 (I 0)) (B + 200) ∧ CL_ σ σ ∧ RL_ τ (wi τ 102 0 (I 0)) := by
  obtain ⟨m, V, E, pres, kp, d, p, L, W, dl, pl, et, b, t, s, rd, h, n, g, hG⟩ := hG
  exact ⟨⟨m, V, E, pres, kp, d, p, L, W, dl, pl, et, b, t, s, rd, h, n, g, GA_B (GA_t hG (fun k hk => wi_row hk) (fun i hi => wi_ne hi)) (by omega)⟩, ⟨fun _ _ => rfl, rfl⟩, ⟨fun k hk => wi_row (by omega), rfl⟩⟩
theorem m_trouble : MT f_X6_trouble f_X7_trouble := by
  intro σ τ B hG hB
  have q := told_ok (x := 0) hG
  obtain ⟨m, V, E, pres, kp, d, p, L, W, dl, pl, et, b, t, s, rd, h, n, g, hG⟩ := hG
  refine ⟨σ.1 0 12, σ, wi τ 102 0 (I 0), rfl, ?_, q⟩
  rw [← hG.2.2.2.2.2.1.1.1]
  rfl
theorem m_fault : MT f_X6_fault f_X7_fault := by
  intro σ τ B hG hB
  have q := told_ok (x := 0) hG
  obtain ⟨m, V, E, pres, kp, d, p, L, W, dl, pl, et, b, t, s, rd, h, n, g, hG⟩ := hG
  refine ⟨σ.1 0 13, σ, wi τ 102 0 (I 0), rfl, ?_, q⟩
  rw [← hG.2.2.2.2.2.1.2]
  rfl
theorem m_where : MT f_X6_where f_X7_where := by
  intro σ τ B hG hB
  have q := told_ok (x := 0) hG
  obtain ⟨m, V, E, pres, kp, d, p, L, W, dl, pl, et, b, t, s, rd, h, n, g, hG⟩ := hG
  obtain ⟨⟨t1, t2, t3⟩, t4⟩ := hG.2.2.2.2.2.1
  by_cases c : σ.1 0 12 = I 4
  · refine ⟨σ.1 1 2, σ, wi τ 102 0 (I 0), ?_, ?_, q⟩
    · unfold f_X6_where f_X6_where_19
      rw [show (4 : Int32) = I 4 from rfl, if_pos c]
    · rw [← t2 c]
      rfl
  · refine ⟨I (-1), σ, wi τ 102 0 (I 0), ?_, ?_, q⟩
    · unfold f_X6_where f_X6_where_19
      rw [show (4 : Int32) = I 4 from rfl, if_neg c]
      rfl
    · rw [← t3 c]
      rfl
theorem size_c {σ : Wd} {w T K Bg : Int} (h0 : σ.1 1 0 = I T) (h1 : σ.1 0 11 = I K) (h2 : σ.1 63 0 = I Bg) (hw : R w) (hK : 0 ≤ K ∧ K ≤ 1) (hb : 0 ≤ Bg ∧ Bg ≤ 1) : f_X6_size (I w) σ = some (I (if w = 0 then T else if w = 1 then K else if w = 2 then Bg else -1), σ) := by
  unfold R at hw
  by_cases c0 : w = 0
  · rw [if_pos c0]
    unfold f_X6_size
    simp (disch := omega) only [gd_t, bd_s, nm_W, nm_I, I_add, I_sub, I_mul, I_neg, I_le_t, I_le_f, I_lt_t, I_lt_f, I_eq_t, I_eq_f, I_inb', I_ix', Int.toNat_natCast, decide_true, decide_false, Bool.not_false, Bool.not_true, if_true, if_false, wi_eq, wi_eq', wi_ne, wi_row, wi_2, N0, N1, N2, N3, N4, N5, N6, N7, N8, N9, N10, N11, N12, N13, N14, N15, N16, N17, N18, N19, N20, N21, N22, N23, N24, N25, N26, N27, N28, N29, N30, N31, N32, N33, N34, N35, N36, N37, N38, N39, N40, N41, N42, N43, N45, N48, N57, N59, N88, N89, N97, N99, N120, N121, N122, N179, N200, N255, N300, N400, N880, N900, N999, N1019, N50000000, N100000000, N1000000000, N2147483647, N2147483648, h0]
  · rw [if_neg c0]
    by_cases c1 : w = 1
    · rw [if_pos c1]
      unfold f_X6_size f_X6_size_48
      by_cases k : K = 0
      · simp (disch := omega) only [gd_t, bd_s, nm_W, nm_I, I_add, I_sub, I_mul, I_neg, I_le_t, I_le_f, I_lt_t, I_lt_f, I_eq_t, I_eq_f, I_inb', I_ix', Int.toNat_natCast, decide_true, decide_false, Bool.not_false, Bool.not_true, if_true, if_false, wi_eq, wi_eq', wi_ne, wi_row, wi_2, N0, N1, N2, N3, N4, N5, N6, N7, N8, N9, N10, N11, N12, N13, N14, N15, N16, N17, N18, N19, N20, N21, N22, N23, N24, N25, N26, N27, N28, N29, N30, N31, N32, N33, N34, N35, N36, N37, N38, N39, N40, N41, N42, N43, N45, N48, N57, N59, N88, N89, N97, N99, N120, N121, N122, N179, N200, N255, N300, N400, N880, N900, N999, N1019, N50000000, N100000000, N1000000000, N2147483647, N2147483648, h1]
        rw [k]
      · simp (disch := omega) only [gd_t, bd_s, nm_W, nm_I, I_add, I_sub, I_mul, I_neg, I_le_t, I_le_f, I_lt_t, I_lt_f, I_eq_t, I_eq_f, I_inb', I_ix', Int.toNat_natCast, decide_true, decide_false, Bool.not_false, Bool.not_true, if_true, if_false, wi_eq, wi_eq', wi_ne, wi_row, wi_2, N0, N1, N2, N3, N4, N5, N6, N7, N8, N9, N10, N11, N12, N13, N14, N15, N16, N17, N18, N19, N20, N21, N22, N23, N24, N25, N26, N27, N28, N29, N30, N31, N32, N33, N34, N35, N36, N37, N38, N39, N40, N41, N42, N43, N45, N48, N57, N59, N88, N89, N97, N99, N120, N121, N122, N179, N200, N255, N300, N400, N880, N900, N999, N1019, N50000000, N100000000, N1000000000, N2147483647, N2147483648, h1]
        rw [show K = 1 from by omega]
    · rw [if_neg c1]
      by_cases c2 : w = 2
      · rw [if_pos c2]
        unfold f_X6_size f_X6_size_64
        by_cases k : Bg = 0
        · simp (disch := omega) only [gd_t, bd_s, nm_W, nm_I, I_add, I_sub, I_mul, I_neg, I_le_t, I_le_f, I_lt_t, I_lt_f, I_eq_t, I_eq_f, I_inb', I_ix', Int.toNat_natCast, decide_true, decide_false, Bool.not_false, Bool.not_true, if_true, if_false, wi_eq, wi_eq', wi_ne, wi_row, wi_2, N0, N1, N2, N3, N4, N5, N6, N7, N8, N9, N10, N11, N12, N13, N14, N15, N16, N17, N18, N19, N20, N21, N22, N23, N24, N25, N26, N27, N28, N29, N30, N31, N32, N33, N34, N35, N36, N37, N38, N39, N40, N41, N42, N43, N45, N48, N57, N59, N88, N89, N97, N99, N120, N121, N122, N179, N200, N255, N300, N400, N880, N900, N999, N1019, N50000000, N100000000, N1000000000, N2147483647, N2147483648, h2]
          rw [k]
        · simp (disch := omega) only [gd_t, bd_s, nm_W, nm_I, I_add, I_sub, I_mul, I_neg, I_le_t, I_le_f, I_lt_t, I_lt_f, I_eq_t, I_eq_f, I_inb', I_ix', Int.toNat_natCast, decide_true, decide_false, Bool.not_false, Bool.not_true, if_true, if_false, wi_eq, wi_eq', wi_ne, wi_row, wi_2, N0, N1, N2, N3, N4, N5, N6, N7, N8, N9, N10, N11, N12, N13, N14, N15, N16, N17, N18, N19, N20, N21, N22, N23, N24, N25, N26, N27, N28, N29, N30, N31, N32, N33, N34, N35, N36, N37, N38, N39, N40, N41, N42, N43, N45, N48, N57, N59, N88, N89, N97, N99, N120, N121, N122, N179, N200, N255, N300, N400, N880, N900, N999, N1019, N50000000, N100000000, N1000000000, N2147483647, N2147483648, h2]
          rw [show Bg = 1 from by omega]
      · rw [if_neg c2]
        unfold f_X6_size
        simp (disch := omega) only [gd_t, bd_s, nm_W, nm_I, I_add, I_sub, I_mul, I_neg, I_le_t, I_le_f, I_lt_t, I_lt_f, I_eq_t, I_eq_f, I_inb', I_ix', Int.toNat_natCast, decide_true, decide_false, Bool.not_false, Bool.not_true, if_true, if_false, wi_eq, wi_eq', wi_ne, wi_row, wi_2, N0, N1, N2, N3, N4, N5, N6, N7, N8, N9, N10, N11, N12, N13, N14, N15, N16, N17, N18, N19, N20, N21, N22, N23, N24, N25, N26, N27, N28, N29, N30, N31, N32, N33, N34, N35, N36, N37, N38, N39, N40, N41, N42, N43, N45, N48, N57, N59, N88, N89, N97, N99, N120, N121, N122, N179, N200, N255, N300, N400, N880, N900, N999, N1019, N50000000, N100000000, N1000000000, N2147483647, N2147483648]
theorem size_r {τ : Wd} {w T K Bg : Int} (h0 : τ.1 102 27 = I T) (h1 : τ.1 102 25 = I K) (h2 : τ.1 112 36 = I Bg) (hw : R w) (hK : 0 ≤ K ∧ K ≤ 1) (hb : 0 ≤ Bg ∧ Bg ≤ 1) : f_X7_size (I w) τ = some (I (if w = 0 then T else if w = 1 then K else if w = 2 then Bg else -1), wi τ 102 0 (I 0)) := by
  unfold R at hw
  have w36 : Int.toNat 36 = 36 := rfl
  by_cases c0 : w = 0
  · rw [if_pos c0]
    unfold f_X7_size
    simp (disch := omega) only [gd_t, bd_s, nm_W, nm_I, I_add, I_sub, I_mul, I_neg, I_le_t, I_le_f, I_lt_t, I_lt_f, I_eq_t, I_eq_f, I_inb', I_ix', Int.toNat_natCast, decide_true, decide_false, Bool.not_false, Bool.not_true, if_true, if_false, wi_eq, wi_eq', wi_ne, wi_row, wi_2, N0, N1, N2, N3, N4, N5, N6, N7, N8, N9, N10, N11, N12, N13, N14, N15, N16, N17, N18, N19, N20, N21, N22, N23, N24, N25, N26, N27, N28, N29, N30, N31, N32, N33, N34, N35, N36, N37, N38, N39, N40, N41, N42, N43, N45, N48, N57, N59, N88, N89, N97, N99, N120, N121, N122, N179, N200, N255, N300, N400, N880, N900, N999, N1019, N50000000, N100000000, N1000000000, N2147483647, N2147483648, h0]
  · rw [if_neg c0]
    by_cases c1 : w = 1
    · rw [if_pos c1]
      unfold f_X7_size f_X7_size_31
      by_cases k : K = 0
      · simp (disch := omega) only [gd_t, bd_s, nm_W, nm_I, I_add, I_sub, I_mul, I_neg, I_le_t, I_le_f, I_lt_t, I_lt_f, I_eq_t, I_eq_f, I_inb', I_ix', Int.toNat_natCast, decide_true, decide_false, Bool.not_false, Bool.not_true, if_true, if_false, wi_eq, wi_eq', wi_ne, wi_row, wi_2, N0, N1, N2, N3, N4, N5, N6, N7, N8, N9, N10, N11, N12, N13, N14, N15, N16, N17, N18, N19, N20, N21, N22, N23, N24, N25, N26, N27, N28, N29, N30, N31, N32, N33, N34, N35, N36, N37, N38, N39, N40, N41, N42, N43, N45, N48, N57, N59, N88, N89, N97, N99, N120, N121, N122, N179, N200, N255, N300, N400, N880, N900, N999, N1019, N50000000, N100000000, N1000000000, N2147483647, N2147483648, h1]
        rw [k]
      · simp (disch := omega) only [gd_t, bd_s, nm_W, nm_I, I_add, I_sub, I_mul, I_neg, I_le_t, I_le_f, I_lt_t, I_lt_f, I_eq_t, I_eq_f, I_inb', I_ix', Int.toNat_natCast, decide_true, decide_false, Bool.not_false, Bool.not_true, if_true, if_false, wi_eq, wi_eq', wi_ne, wi_row, wi_2, N0, N1, N2, N3, N4, N5, N6, N7, N8, N9, N10, N11, N12, N13, N14, N15, N16, N17, N18, N19, N20, N21, N22, N23, N24, N25, N26, N27, N28, N29, N30, N31, N32, N33, N34, N35, N36, N37, N38, N39, N40, N41, N42, N43, N45, N48, N57, N59, N88, N89, N97, N99, N120, N121, N122, N179, N200, N255, N300, N400, N880, N900, N999, N1019, N50000000, N100000000, N1000000000, N2147483647, N2147483648, h1]
        rw [show K = 1 from by omega]
    · rw [if_neg c1]
      by_cases c2 : w = 2
      · rw [if_pos c2]
        unfold f_X7_size f_X7_size_48
        simp (disch := omega) only [gd_t, bd_s, nm_W, nm_I, I_add, I_sub, I_mul, I_neg, I_le_t, I_le_f, I_lt_t, I_lt_f, I_eq_t, I_eq_f, I_inb', I_ix', Int.toNat_natCast, decide_true, decide_false, Bool.not_false, Bool.not_true, if_true, if_false, wi_eq, wi_eq', wi_ne, wi_row, wi_2, N0, N1, N2, N3, N4, N5, N6, N7, N8, N9, N10, N11, N12, N13, N14, N15, N16, N17, N18, N19, N20, N21, N22, N23, N24, N25, N26, N27, N28, N29, N30, N31, N32, N33, N34, N35, N36, N37, N38, N39, N40, N41, N42, N43, N45, N48, N57, N59, N88, N89, N97, N99, N120, N121, N122, N179, N200, N255, N300, N400, N880, N900, N999, N1019, N50000000, N100000000, N1000000000, N2147483647, N2147483648, w36, h2]
      · rw [if_neg c2]
        unfold f_X7_size f_X7_size_48
        simp (disch := omega) only [gd_t, bd_s, nm_W, nm_I, I_add, I_sub, I_mul, I_neg, I_le_t, I_le_f, I_lt_t, I_lt_f, I_eq_t, I_eq_f, I_inb', I_ix', Int.toNat_natCast, decide_true, decide_false, Bool.not_false, Bool.not_true, if_true, if_false, wi_eq, wi_eq', wi_ne, wi_row, wi_2, N0, N1, N2, N3, N4, N5, N6, N7, N8, N9, N10, N11, N12, N13, N14, N15, N16, N17, N18, N19, N20, N21, N22, N23, N24, N25, N26, N27, N28, N29, N30, N31, N32, N33, N34, N35, N36, N37, N38, N39, N40, N41, N42, N43, N45, N48, N57, N59, N88, N89, N97, N99, N120, N121, N122, N179, N200, N255, N300, N400, N880, N900, N999, N1019, N50000000, N100000000, N1000000000, N2147483647, N2147483648]
theorem m_size (x : Int32) : MT (f_X6_size x) (f_X7_size x) := by
  intro σ τ B hG hB
  have q := told_ok (x := 0) hG
  obtain ⟨m, V, E, pres, kp, d, p, L, W, dl, pl, et, b, t, s, rd, h, n, g, hG⟩ := hG
  obtain ⟨w, rfl, hw⟩ := argI x
  obtain ⟨tp, p1, p2, p3, p4⟩ := hG.2.2.2.2.2.2
  exact ⟨_, σ, wi τ 102 0 (I 0), size_c p2 hG.2.2.2.2.1.1 hG.2.2.1.1.2.2.1.1.1 hw (bn_bnd _) (bn_bnd _), size_r p3 hG.2.2.2.2.1.2.1 hG.2.2.1.1.2.2.1.1.2 hw (bn_bnd _) (bn_bnd _), q⟩
theorem rRun {τ : Wd} {pres b : Bool} {a : Int} (h : τ.1 102 21 = I (bn pres)) (h36 : τ.1 112 36 = I (bn b)) (ha : 0 ≤ a ∧ a ≤ 1) : f_X7_refusesRun (I a) τ = some (I (tc pres a 1 (bn b)), τ) := by
  have w36 : Int.toNat 36 = 36 := rfl
  obtain ⟨x, hx⟩ : ∃ x, x = bn pres := ⟨_, rfl⟩
  have xb := bn_bnd pres
  rw [← hx] at h xb
  obtain ⟨y, hy⟩ : ∃ y, y = bn b := ⟨_, rfl⟩
  have yb := bn_bnd b
  rw [← hy] at h36 yb ⊢
  rcases tc_cases (pres := pres) (a := a) (n := 1) (s := y) with ⟨q1, q2⟩ | ⟨q1, q2, q3⟩ | ⟨-, -, q2, -⟩ | ⟨q1, q2, -, q3, q4⟩ | ⟨q1, q2, -, q3, q4⟩
  · have x0 : x = 0 := by rw [hx, q1]; rfl
    rw [q2]
    unfold f_X7_refusesRun f_X7_refusesRun_11 f_X7_refusesRun_30
    simp (disch := omega) only [gd_t, bd_s, nm_W, nm_I, I_add, I_sub, I_mul, I_neg, I_le_t, I_le_f, I_lt_t, I_lt_f, I_eq_t, I_eq_f, I_inb', I_ix', Int.toNat_natCast, decide_true, decide_false, Bool.not_false, Bool.not_true, if_true, if_false, wi_eq, wi_eq', wi_ne, wi_row, wi_2, N0, N1, N2, N3, N4, N5, N6, N7, N8, N9, N10, N11, N12, N13, N14, N15, N16, N17, N18, N19, N20, N21, N22, N23, N24, N25, N26, N27, N28, N29, N30, N31, N32, N33, N34, N35, N36, N37, N38, N39, N40, N41, N42, N43, N45, N48, N57, N59, N88, N89, N97, N99, N120, N121, N122, N179, N200, N255, N300, N400, N880, N900, N999, N1019, N50000000, N100000000, N1000000000, N2147483647, N2147483648, h]
  · have x1 : x = 1 := by rw [hx, q1]; rfl
    rw [q3]
    unfold f_X7_refusesRun f_X7_refusesRun_11 f_X7_refusesRun_30
    simp (disch := omega) only [gd_t, bd_s, nm_W, nm_I, I_add, I_sub, I_mul, I_neg, I_le_t, I_le_f, I_lt_t, I_lt_f, I_eq_t, I_eq_f, I_inb', I_ix', Int.toNat_natCast, decide_true, decide_false, Bool.not_false, Bool.not_true, if_true, if_false, wi_eq, wi_eq', wi_ne, wi_row, wi_2, N0, N1, N2, N3, N4, N5, N6, N7, N8, N9, N10, N11, N12, N13, N14, N15, N16, N17, N18, N19, N20, N21, N22, N23, N24, N25, N26, N27, N28, N29, N30, N31, N32, N33, N34, N35, N36, N37, N38, N39, N40, N41, N42, N43, N45, N48, N57, N59, N88, N89, N97, N99, N120, N121, N122, N179, N200, N255, N300, N400, N880, N900, N999, N1019, N50000000, N100000000, N1000000000, N2147483647, N2147483648, h]
  · omega
  · have x1 : x = 1 := by rw [hx, q1]; rfl
    rw [q4]
    unfold f_X7_refusesRun f_X7_refusesRun_30
    simp (disch := omega) only [gd_t, bd_s, nm_W, nm_I, I_add, I_sub, I_mul, I_neg, I_le_t, I_le_f, I_lt_t, I_lt_f, I_eq_t, I_eq_f, I_inb', I_ix', Int.toNat_natCast, decide_true, decide_false, Bool.not_false, Bool.not_true, if_true, if_false, wi_eq, wi_eq', wi_ne, wi_row, wi_2, N0, N1, N2, N3, N4, N5, N6, N7, N8, N9, N10, N11, N12, N13, N14, N15, N16, N17, N18, N19, N20, N21, N22, N23, N24, N25, N26, N27, N28, N29, N30, N31, N32, N33, N34, N35, N36, N37, N38, N39, N40, N41, N42, N43, N45, N48, N57, N59, N88, N89, N97, N99, N120, N121, N122, N179, N200, N255, N300, N400, N880, N900, N999, N1019, N50000000, N100000000, N1000000000, N2147483647, N2147483648, h, w36, h36]
  · have x1 : x = 1 := by rw [hx, q1]; rfl
    rw [q4]
    unfold f_X7_refusesRun f_X7_refusesRun_30
    simp (disch := omega) only [gd_t, bd_s, nm_W, nm_I, I_add, I_sub, I_mul, I_neg, I_le_t, I_le_f, I_lt_t, I_lt_f, I_eq_t, I_eq_f, I_inb', I_ix', Int.toNat_natCast, decide_true, decide_false, Bool.not_false, Bool.not_true, if_true, if_false, wi_eq, wi_eq', wi_ne, wi_row, wi_2, N0, N1, N2, N3, N4, N5, N6, N7, N8, N9, N10, N11, N12, N13, N14, N15, N16, N17, N18, N19, N20, N21, N22, N23, N24, N25, N26, N27, N28, N29, N30, N31, N32, N33, N34, N35, N36, N37, N38, N39, N40, N41, N42, N43, N45, N48, N57, N59, N88, N89, N97, N99, N120, N121, N122, N179, N200, N255, N300, N400, N880, N900, N999, N1019, N50000000, N100000000, N1000000000, N2147483647, N2147483648, h, w36, h36]
/-- a question to the run -/
theorem run_ok {m V E : Nat} {σ τ : Wd} {pres kp : Bool} {d : MD} {p L W : Int} {dl pl et : Nat → Int} {b : Bool} {t s rd : Int} {h n g : Nat → Int} {B a a' : Int} {low : Int32} {K K' : Wd → Option (Int32 × Wd)} {Rf : Int32 → Wd → Option (Int32 × Wd)}
    (hG : GA m σ τ V E pres kp d p L W dl pl et b t s rd h n g B) (ha : 0 ≤ a ∧ a ≤ 1) (ha' : 0 ≤ a' ∧ a' ≤ 1) (haa : pres = true → a = a') (hRf : ∀ c τ, Rf c τ = some (low, wi (wi τ 102 1 c) 102 2 (I (-1))))
    (hK : pres = true → a = 1 → b = true → QQ m 63 (wi σ 0 12 (I 0)) (wi τ 102 0 (I 0)) V E d p L W dl pl et b t s rd h n g → ∃ (x : Int32) (σ' τ4 : Wd), K (wi σ 0 12 (I 0)) = some (x, σ') ∧ K' (wi τ 102 0 (I 0)) = bd (f_X7_good x τ4) (fun r s => some (r, s)) ∧ QF (wi σ 0 12 (I 0)) σ' ∧ RQ (wi τ 102 0 (I 0)) τ4) :
    ∃ (x : Int32) (σ' τ' : Wd), (bd (f_X6_granted (I a) (I 1) (σ.1 63 0) σ) fun r1 σ2 => if r1 = 0 then some (low, σ2) else K σ2) = some (x, σ')
      ∧ (bd (f_X7_refusesRun (I a') (wi τ 102 0 (I 0))) fun r2 σ3 => if r2 ≤ 0 then K' σ3 else bd (Rf r2 σ3) fun r s => some (r, s)) = some (x, τ')
      ∧ GA m σ' τ' V E pres kp d p L W dl pl et b t s rd h n g B ∧ CL_ σ σ' ∧ RL_ τ τ' := by
  have m50 := hG.1
  have hQ := hG.2.2.1.1
  have e := rRun (τ := wi τ 102 0 (I 0)) (a := a') (pres := pres) (b := b) (by rw [wi_ne (by decide)]; exact hG.2.2.2.1.2.1) (by rw [wi_row (by decide)]; exact hQ.2.2.1.1.2) ha'
  rw [← tc_eq haa] at e
  rw [hQ.2.2.1.1.1, e, bd_s]
  have cb := tc_b (pres := pres) (a := a) (n := 1) (s := bn b)
  refine grq_ok (fr := fun _ => _) hG ha (by omega) (bn_bnd b) (fun hc => ?_) (fun q1 q2 _ q3 hM hR => ?_)
  · have nc : ¬ I (tc pres a 1 (bn b)) ≤ (0 : Int32) := by
      show ¬ I (tc pres a 1 (bn b)) ≤ I 0
      rw [I_le (by unfold R; omega) (by unfold R; omega)]; omega
    show (if I (tc pres a 1 (bn b)) ≤ (0 : Int32) then _ else _) = _
    rw [if_neg nc, hRf]
    rfl
  · have bt : b = true := by
      cases e : b with
      | true => rfl
      | false => rw [e] at q3; cases q3
    have c0 : tc pres a 1 (bn b) = 0 := by
      unfold tc
      rw [q1, q2, q3, if_neg (by decide), if_neg (by decide), if_neg (by decide)]
    obtain ⟨x, σ', τ4, k1, k2, k3, k4⟩ := hK q1 q2 bt (QQ_congr hQ (by omega) (fun k a1 a2 => wi_row (by omega)) (fun k a1 a2 => wi_row (by omega)) (fun i a1 a2 => wi_ne (by omega)) (wi_row (by decide)) (wi_row (by decide)) (wi_row (by decide)) (wi_row (by decide)))
    refine ⟨x, σ', τ4, k1, ?_, k3, k4⟩
    show (if I (tc pres a 1 (bn b)) ≤ (0 : Int32) then _ else _) = _
    rw [c0, if_pos (by decide)]
    exact k2
