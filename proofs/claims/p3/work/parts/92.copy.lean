/-! PURE: what is told of the run; copies -/
theorem tell_ok {m r V E : Nat} {d : MD} {σ τ : Wd} {p L W : Int} {dl pl et : Nat → Int} {b : Bool} {t s rd w : Int} {h n g : Nat → Int} (hQ : QQ m r σ τ V E d p L W dl pl et b t s rd h n g) (w0 : 0 ≤ w) (w1 : w ≤ 7) :
    ∃ (τ' : Wd) (x : Int32), f_X4_tell r m (I w) σ = some (x, σ) ∧ f_X7_isNow (I w) τ = some (x, τ') ∧ OF τ τ' := by
  obtain ⟨τ1, o, o1, o2, o3⟩ := over_ok hQ
  obtain ⟨hM, hE, hR, ⟨np, np1, np2, np3, np4⟩, hP, -⟩ := hQ
  have tc := tcAll hE hR.2.1.2.1 hR.2.1.2.2.1 (by have := hR.2.1.2.2.2; omega) np2 np3 np4
  have h4 := hE.2.1
  obtain ⟨⟨y0, y0'⟩, ⟨y1, y1', t0, t1⟩, ⟨y2, y2', y3, y4⟩, y5, y6, y7, y8⟩ := hR
  clear hM hE hP np3 np4
  have w37 : Int.toNat 37 = 37 := rfl
  have w38 : Int.toNat 38 = 38 := rfl
  have w39 : Int.toNat 39 = 39 := rfl
  have w40 : Int.toNat 40 = 40 := rfl
  have w41 : Int.toNat 41 = 41 := rfl
  have w42 : Int.toNat 42 = 42 := rfl
  rcases (show w = 0 ∨ w = 1 ∨ w = 2 ∨ w = 3 ∨ w = 4 ∨ w = 5 ∨ w = 6 ∨ w = 7 by omega) with c | c | c | c | c | c | c | c
  · refine ⟨τ, I t, ?_, ?_, OF_refl⟩
    · unfold f_X4_tell
      simp (disch := omega) only [gd_t, bd_s, nm_W, nm_I, I_add, I_sub, I_mul, I_neg, I_le_t, I_le_f, I_lt_t, I_lt_f, I_eq_t, I_eq_f, I_inb', I_ix', Int.toNat_natCast, decide_true, decide_false, Bool.not_false, Bool.not_true, if_true, if_false, wi_eq, wi_eq', wi_ne, wi_row, wi_2, N0, N1, N2, N3, N4, N5, N6, N7, N8, N9, N10, N11, N12, N13, N14, N15, N16, N17, N18, N19, N20, N21, N22, N23, N24, N25, N26, N27, N28, N29, N30, N31, N32, N33, N34, N35, N36, N37, N38, N39, N40, N41, N42, N43, N45, N48, N57, N59, N88, N89, N97, N99, N120, N121, N122, N179, N200, N255, N300, N400, N880, N900, N999, N1019, N50000000, N100000000, N1000000000, N2147483647, N2147483648, y1]
    · unfold f_X7_isNow
      simp (disch := omega) only [gd_t, bd_s, nm_W, nm_I, I_add, I_sub, I_mul, I_neg, I_le_t, I_le_f, I_lt_t, I_lt_f, I_eq_t, I_eq_f, I_inb', I_ix', Int.toNat_natCast, decide_true, decide_false, Bool.not_false, Bool.not_true, if_true, if_false, wi_eq, wi_eq', wi_ne, wi_row, wi_2, N0, N1, N2, N3, N4, N5, N6, N7, N8, N9, N10, N11, N12, N13, N14, N15, N16, N17, N18, N19, N20, N21, N22, N23, N24, N25, N26, N27, N28, N29, N30, N31, N32, N33, N34, N35, N36, N37, N38, N39, N40, N41, N42, N43, N45, N48, N57, N59, N88, N89, N97, N99, N120, N121, N122, N179, N200, N255, N300, N400, N880, N900, N999, N1019, N50000000, N100000000, N1000000000, N2147483647, N2147483648, w37, y1']
  · refine ⟨τ, I s, ?_, ?_, OF_refl⟩
    · unfold f_X4_tell
      simp (disch := omega) only [gd_t, bd_s, nm_W, nm_I, I_add, I_sub, I_mul, I_neg, I_le_t, I_le_f, I_lt_t, I_lt_f, I_eq_t, I_eq_f, I_inb', I_ix', Int.toNat_natCast, decide_true, decide_false, Bool.not_false, Bool.not_true, if_true, if_false, wi_eq, wi_eq', wi_ne, wi_row, wi_2, N0, N1, N2, N3, N4, N5, N6, N7, N8, N9, N10, N11, N12, N13, N14, N15, N16, N17, N18, N19, N20, N21, N22, N23, N24, N25, N26, N27, N28, N29, N30, N31, N32, N33, N34, N35, N36, N37, N38, N39, N40, N41, N42, N43, N45, N48, N57, N59, N88, N89, N97, N99, N120, N121, N122, N179, N200, N255, N300, N400, N880, N900, N999, N1019, N50000000, N100000000, N1000000000, N2147483647, N2147483648, y2]
    · unfold f_X7_isNow
      simp (disch := omega) only [gd_t, bd_s, nm_W, nm_I, I_add, I_sub, I_mul, I_neg, I_le_t, I_le_f, I_lt_t, I_lt_f, I_eq_t, I_eq_f, I_inb', I_ix', Int.toNat_natCast, decide_true, decide_false, Bool.not_false, Bool.not_true, if_true, if_false, wi_eq, wi_eq', wi_ne, wi_row, wi_2, N0, N1, N2, N3, N4, N5, N6, N7, N8, N9, N10, N11, N12, N13, N14, N15, N16, N17, N18, N19, N20, N21, N22, N23, N24, N25, N26, N27, N28, N29, N30, N31, N32, N33, N34, N35, N36, N37, N38, N39, N40, N41, N42, N43, N45, N48, N57, N59, N88, N89, N97, N99, N120, N121, N122, N179, N200, N255, N300, N400, N880, N900, N999, N1019, N50000000, N100000000, N1000000000, N2147483647, N2147483648, w38, y2']
  · refine ⟨τ, σ.1 r 3, ?_, ?_, OF_refl⟩
    · unfold f_X4_tell
      simp (disch := omega) only [gd_t, bd_s, nm_W, nm_I, I_add, I_sub, I_mul, I_neg, I_le_t, I_le_f, I_lt_t, I_lt_f, I_eq_t, I_eq_f, I_inb', I_ix', Int.toNat_natCast, decide_true, decide_false, Bool.not_false, Bool.not_true, if_true, if_false, wi_eq, wi_eq', wi_ne, wi_row, wi_2, N0, N1, N2, N3, N4, N5, N6, N7, N8, N9, N10, N11, N12, N13, N14, N15, N16, N17, N18, N19, N20, N21, N22, N23, N24, N25, N26, N27, N28, N29, N30, N31, N32, N33, N34, N35, N36, N37, N38, N39, N40, N41, N42, N43, N45, N48, N57, N59, N88, N89, N97, N99, N120, N121, N122, N179, N200, N255, N300, N400, N880, N900, N999, N1019, N50000000, N100000000, N1000000000, N2147483647, N2147483648]
    · unfold f_X7_isNow
      simp (disch := omega) only [gd_t, bd_s, nm_W, nm_I, I_add, I_sub, I_mul, I_neg, I_le_t, I_le_f, I_lt_t, I_lt_f, I_eq_t, I_eq_f, I_inb', I_ix', Int.toNat_natCast, decide_true, decide_false, Bool.not_false, Bool.not_true, if_true, if_false, wi_eq, wi_eq', wi_ne, wi_row, wi_2, N0, N1, N2, N3, N4, N5, N6, N7, N8, N9, N10, N11, N12, N13, N14, N15, N16, N17, N18, N19, N20, N21, N22, N23, N24, N25, N26, N27, N28, N29, N30, N31, N32, N33, N34, N35, N36, N37, N38, N39, N40, N41, N42, N43, N45, N48, N57, N59, N88, N89, N97, N99, N120, N121, N122, N179, N200, N255, N300, N400, N880, N900, N999, N1019, N50000000, N100000000, N1000000000, N2147483647, N2147483648, w39, y5]
  · refine ⟨τ, σ.1 r 4, ?_, ?_, OF_refl⟩
    · unfold f_X4_tell
      simp (disch := omega) only [gd_t, bd_s, nm_W, nm_I, I_add, I_sub, I_mul, I_neg, I_le_t, I_le_f, I_lt_t, I_lt_f, I_eq_t, I_eq_f, I_inb', I_ix', Int.toNat_natCast, decide_true, decide_false, Bool.not_false, Bool.not_true, if_true, if_false, wi_eq, wi_eq', wi_ne, wi_row, wi_2, N0, N1, N2, N3, N4, N5, N6, N7, N8, N9, N10, N11, N12, N13, N14, N15, N16, N17, N18, N19, N20, N21, N22, N23, N24, N25, N26, N27, N28, N29, N30, N31, N32, N33, N34, N35, N36, N37, N38, N39, N40, N41, N42, N43, N45, N48, N57, N59, N88, N89, N97, N99, N120, N121, N122, N179, N200, N255, N300, N400, N880, N900, N999, N1019, N50000000, N100000000, N1000000000, N2147483647, N2147483648]
    · unfold f_X7_isNow
      simp (disch := omega) only [gd_t, bd_s, nm_W, nm_I, I_add, I_sub, I_mul, I_neg, I_le_t, I_le_f, I_lt_t, I_lt_f, I_eq_t, I_eq_f, I_inb', I_ix', Int.toNat_natCast, decide_true, decide_false, Bool.not_false, Bool.not_true, if_true, if_false, wi_eq, wi_eq', wi_ne, wi_row, wi_2, N0, N1, N2, N3, N4, N5, N6, N7, N8, N9, N10, N11, N12, N13, N14, N15, N16, N17, N18, N19, N20, N21, N22, N23, N24, N25, N26, N27, N28, N29, N30, N31, N32, N33, N34, N35, N36, N37, N38, N39, N40, N41, N42, N43, N45, N48, N57, N59, N88, N89, N97, N99, N120, N121, N122, N179, N200, N255, N300, N400, N880, N900, N999, N1019, N50000000, N100000000, N1000000000, N2147483647, N2147483648, w40, y6]
  · refine ⟨τ, σ.1 r 5, ?_, ?_, OF_refl⟩
    · unfold f_X4_tell
      simp (disch := omega) only [gd_t, bd_s, nm_W, nm_I, I_add, I_sub, I_mul, I_neg, I_le_t, I_le_f, I_lt_t, I_lt_f, I_eq_t, I_eq_f, I_inb', I_ix', Int.toNat_natCast, decide_true, decide_false, Bool.not_false, Bool.not_true, if_true, if_false, wi_eq, wi_eq', wi_ne, wi_row, wi_2, N0, N1, N2, N3, N4, N5, N6, N7, N8, N9, N10, N11, N12, N13, N14, N15, N16, N17, N18, N19, N20, N21, N22, N23, N24, N25, N26, N27, N28, N29, N30, N31, N32, N33, N34, N35, N36, N37, N38, N39, N40, N41, N42, N43, N45, N48, N57, N59, N88, N89, N97, N99, N120, N121, N122, N179, N200, N255, N300, N400, N880, N900, N999, N1019, N50000000, N100000000, N1000000000, N2147483647, N2147483648]
    · unfold f_X7_isNow
      simp (disch := omega) only [gd_t, bd_s, nm_W, nm_I, I_add, I_sub, I_mul, I_neg, I_le_t, I_le_f, I_lt_t, I_lt_f, I_eq_t, I_eq_f, I_inb', I_ix', Int.toNat_natCast, decide_true, decide_false, Bool.not_false, Bool.not_true, if_true, if_false, wi_eq, wi_eq', wi_ne, wi_row, wi_2, N0, N1, N2, N3, N4, N5, N6, N7, N8, N9, N10, N11, N12, N13, N14, N15, N16, N17, N18, N19, N20, N21, N22, N23, N24, N25, N26, N27, N28, N29, N30, N31, N32, N33, N34, N35, N36, N37, N38, N39, N40, N41, N42, N43, N45, N48, N57, N59, N88, N89, N97, N99, N120, N121, N122, N179, N200, N255, N300, N400, N880, N900, N999, N1019, N50000000, N100000000, N1000000000, N2147483647, N2147483648, w41, y7]
  · refine ⟨τ, σ.1 r 6, ?_, ?_, OF_refl⟩
    · unfold f_X4_tell
      simp (disch := omega) only [gd_t, bd_s, nm_W, nm_I, I_add, I_sub, I_mul, I_neg, I_le_t, I_le_f, I_lt_t, I_lt_f, I_eq_t, I_eq_f, I_inb', I_ix', Int.toNat_natCast, decide_true, decide_false, Bool.not_false, Bool.not_true, if_true, if_false, wi_eq, wi_eq', wi_ne, wi_row, wi_2, N0, N1, N2, N3, N4, N5, N6, N7, N8, N9, N10, N11, N12, N13, N14, N15, N16, N17, N18, N19, N20, N21, N22, N23, N24, N25, N26, N27, N28, N29, N30, N31, N32, N33, N34, N35, N36, N37, N38, N39, N40, N41, N42, N43, N45, N48, N57, N59, N88, N89, N97, N99, N120, N121, N122, N179, N200, N255, N300, N400, N880, N900, N999, N1019, N50000000, N100000000, N1000000000, N2147483647, N2147483648]
    · unfold f_X7_isNow
      simp (disch := omega) only [gd_t, bd_s, nm_W, nm_I, I_add, I_sub, I_mul, I_neg, I_le_t, I_le_f, I_lt_t, I_lt_f, I_eq_t, I_eq_f, I_inb', I_ix', Int.toNat_natCast, decide_true, decide_false, Bool.not_false, Bool.not_true, if_true, if_false, wi_eq, wi_eq', wi_ne, wi_row, wi_2, N0, N1, N2, N3, N4, N5, N6, N7, N8, N9, N10, N11, N12, N13, N14, N15, N16, N17, N18, N19, N20, N21, N22, N23, N24, N25, N26, N27, N28, N29, N30, N31, N32, N33, N34, N35, N36, N37, N38, N39, N40, N41, N42, N43, N45, N48, N57, N59, N88, N89, N97, N99, N120, N121, N122, N179, N200, N255, N300, N400, N880, N900, N999, N1019, N50000000, N100000000, N1000000000, N2147483647, N2147483648, w42, y8]
  · have xb := bn_bnd o
    obtain ⟨x, hx⟩ : ∃ x, x = bn o := ⟨_, rfl⟩
    rw [← hx] at o1 o2 xb
    refine ⟨τ1, I x, ?_, ?_, o3⟩
    · unfold f_X4_tell
      by_cases c2 : x = 0
      · simp (disch := omega) only [gd_t, bd_s, nm_W, nm_I, I_add, I_sub, I_mul, I_neg, I_le_t, I_le_f, I_lt_t, I_lt_f, I_eq_t, I_eq_f, I_inb', I_ix', Int.toNat_natCast, decide_true, decide_false, Bool.not_false, Bool.not_true, if_true, if_false, wi_eq, wi_eq', wi_ne, wi_row, wi_2, N0, N1, N2, N3, N4, N5, N6, N7, N8, N9, N10, N11, N12, N13, N14, N15, N16, N17, N18, N19, N20, N21, N22, N23, N24, N25, N26, N27, N28, N29, N30, N31, N32, N33, N34, N35, N36, N37, N38, N39, N40, N41, N42, N43, N45, N48, N57, N59, N88, N89, N97, N99, N120, N121, N122, N179, N200, N255, N300, N400, N880, N900, N999, N1019, N50000000, N100000000, N1000000000, N2147483647, N2147483648, o1, f_X4_tell_87]
        rw [c2]
      · simp (disch := omega) only [gd_t, bd_s, nm_W, nm_I, I_add, I_sub, I_mul, I_neg, I_le_t, I_le_f, I_lt_t, I_lt_f, I_eq_t, I_eq_f, I_inb', I_ix', Int.toNat_natCast, decide_true, decide_false, Bool.not_false, Bool.not_true, if_true, if_false, wi_eq, wi_eq', wi_ne, wi_row, wi_2, N0, N1, N2, N3, N4, N5, N6, N7, N8, N9, N10, N11, N12, N13, N14, N15, N16, N17, N18, N19, N20, N21, N22, N23, N24, N25, N26, N27, N28, N29, N30, N31, N32, N33, N34, N35, N36, N37, N38, N39, N40, N41, N42, N43, N45, N48, N57, N59, N88, N89, N97, N99, N120, N121, N122, N179, N200, N255, N300, N400, N880, N900, N999, N1019, N50000000, N100000000, N1000000000, N2147483647, N2147483648, o1, f_X4_tell_87]
        rw [show x = 1 from by omega]
    · unfold f_X7_isNow
      by_cases c2 : x = 0
      · simp (disch := omega) only [gd_t, bd_s, nm_W, nm_I, I_add, I_sub, I_mul, I_neg, I_le_t, I_le_f, I_lt_t, I_lt_f, I_eq_t, I_eq_f, I_inb', I_ix', Int.toNat_natCast, decide_true, decide_false, Bool.not_false, Bool.not_true, if_true, if_false, wi_eq, wi_eq', wi_ne, wi_row, wi_2, N0, N1, N2, N3, N4, N5, N6, N7, N8, N9, N10, N11, N12, N13, N14, N15, N16, N17, N18, N19, N20, N21, N22, N23, N24, N25, N26, N27, N28, N29, N30, N31, N32, N33, N34, N35, N36, N37, N38, N39, N40, N41, N42, N43, N45, N48, N57, N59, N88, N89, N97, N99, N120, N121, N122, N179, N200, N255, N300, N400, N880, N900, N999, N1019, N50000000, N100000000, N1000000000, N2147483647, N2147483648, o2, f_X7_isNow_104]
        rw [c2]
      · simp (disch := omega) only [gd_t, bd_s, nm_W, nm_I, I_add, I_sub, I_mul, I_neg, I_le_t, I_le_f, I_lt_t, I_lt_f, I_eq_t, I_eq_f, I_inb', I_ix', Int.toNat_natCast, decide_true, decide_false, Bool.not_false, Bool.not_true, if_true, if_false, wi_eq, wi_eq', wi_ne, wi_row, wi_2, N0, N1, N2, N3, N4, N5, N6, N7, N8, N9, N10, N11, N12, N13, N14, N15, N16, N17, N18, N19, N20, N21, N22, N23, N24, N25, N26, N27, N28, N29, N30, N31, N32, N33, N34, N35, N36, N37, N38, N39, N40, N41, N42, N43, N45, N48, N57, N59, N88, N89, N97, N99, N120, N121, N122, N179, N200, N255, N300, N400, N880, N900, N999, N1019, N50000000, N100000000, N1000000000, N2147483647, N2147483648, o2, f_X7_isNow_104]
        rw [show x = 1 from by omega]
  · refine ⟨τ, I ((E : Int) - (np : Int)), ?_, ?_, OF_refl⟩
    · unfold f_X4_tell
      simp (disch := omega) only [gd_t, bd_s, nm_W, nm_I, I_add, I_sub, I_mul, I_neg, I_le_t, I_le_f, I_lt_t, I_lt_f, I_eq_t, I_eq_f, I_inb', I_ix', Int.toNat_natCast, decide_true, decide_false, Bool.not_false, Bool.not_true, if_true, if_false, wi_eq, wi_eq', wi_ne, wi_row, wi_2, N0, N1, N2, N3, N4, N5, N6, N7, N8, N9, N10, N11, N12, N13, N14, N15, N16, N17, N18, N19, N20, N21, N22, N23, N24, N25, N26, N27, N28, N29, N30, N31, N32, N33, N34, N35, N36, N37, N38, N39, N40, N41, N42, N43, N45, N48, N57, N59, N88, N89, N97, N99, N120, N121, N122, N179, N200, N255, N300, N400, N880, N900, N999, N1019, N50000000, N100000000, N1000000000, N2147483647, N2147483648, h4, np1]
    · unfold f_X7_isNow
      simp (disch := omega) only [gd_t, bd_s, nm_W, nm_I, I_add, I_sub, I_mul, I_neg, I_le_t, I_le_f, I_lt_t, I_lt_f, I_eq_t, I_eq_f, I_inb', I_ix', Int.toNat_natCast, decide_true, decide_false, Bool.not_false, Bool.not_true, if_true, if_false, wi_eq, wi_eq', wi_ne, wi_row, wi_2, N0, N1, N2, N3, N4, N5, N6, N7, N8, N9, N10, N11, N12, N13, N14, N15, N16, N17, N18, N19, N20, N21, N22, N23, N24, N25, N26, N27, N28, N29, N30, N31, N32, N33, N34, N35, N36, N37, N38, N39, N40, N41, N42, N43, N45, N48, N57, N59, N88, N89, N97, N99, N120, N121, N122, N179, N200, N255, N300, N400, N880, N900, N999, N1019, N50000000, N100000000, N1000000000, N2147483647, N2147483648, tc]
theorem wc_eq {σ : Wd} {k : Nat} {f : Nat → Int32} : (wc σ k f).1 k = f := if_pos rfl
theorem wc_row {σ : Wd} {k a : Nat} {f : Nat → Int32} (h : a ≠ k) : (wc σ k f).1 a = σ.1 a := if_neg h
theorem wc_2 {σ : Wd} {k : Nat} {f : Nat → Int32} : (wc σ k f).2 = σ.2 := rfl
theorem cpy_at {f g : Nat → Int32} {n i : Nat} (h : i < n) : va_cpy f g 0 0 n i = f i := by
  show (if 0 ≤ i ∧ i < 0 + n then f (0 + (i - 0)) else g i) = f i
  rw [if_pos ⟨by omega, by omega⟩, Nat.zero_add, Nat.sub_zero]
def cpc (b m : Nat) : List Nat → Wd → Wd
  | [], X => X
  | i :: l, X => cpc b m l (wi X b i (X.1 m i))
def cps (b m : Nat) : List (Nat × Nat) → Wd → Wd
  | [], X => X
  | e :: l, X => cps b m l (wc X (b + e.1) (va_cpy (X.1 (m + e.1)) (X.1 (b + e.1)) 0 0 e.2))
theorem cpc_row {b m k : Nat} (h : k ≠ b) : ∀ (l : List Nat) (X : Wd), (cpc b m l X).1 k = X.1 k
  | [], _ => rfl
  | i :: l, X => by rw [cpc, cpc_row h l, wi_row h]
theorem cpc_2 {b m : Nat} : ∀ (l : List Nat) (X : Wd), (cpc b m l X).2 = X.2
  | [], _ => rfl
  | i :: l, X => by rw [cpc, cpc_2 l, wi_2]
theorem cpc_keep {b m i : Nat} (h : b ≠ m) : ∀ (l : List Nat) (X : Wd), X.1 b i = X.1 m i → (cpc b m l X).1 b i = X.1 m i
  | [], _, e => e
  | j :: l, X, e => by
    rw [cpc, cpc_keep h l]
    · rw [wi_row (Ne.symm h)]
    · rw [wi_row (Ne.symm h)]
      by_cases c : i = j
      · rw [c, wi_eq]
      · rw [wi_ne c]; exact e
theorem cpc_at {b m i : Nat} (h : b ≠ m) : ∀ (l : List Nat) (X : Wd), i ∈ l → (cpc b m l X).1 b i = X.1 m i
  | [], _, e => by cases e
  | j :: l, X, e => by
    rw [cpc]
    by_cases c : i = j
    · rw [cpc_keep h l _ (by rw [wi_row (Ne.symm h), c, wi_eq]), wi_row (Ne.symm h)]
    · rw [cpc_at h l _ (by
        cases e with
        | head => exact absurd rfl c
        | tail _ q => exact q), wi_row (Ne.symm h)]
theorem cps_row {b m k : Nat} : ∀ (l : List (Nat × Nat)) (X : Wd), (∀ e, e ∈ l → b + e.1 ≠ k) → (cps b m l X).1 k = X.1 k
  | [], _, _ => rfl
  | e :: l, X, h => by
    rw [cps, cps_row l _ (fun q hq => h q (List.mem_cons_of_mem _ hq)), wc_row (fun q => h e (List.mem_cons_self) q.symm)]
theorem cps_2 {b m : Nat} : ∀ (l : List (Nat × Nat)) (X : Wd), (cps b m l X).2 = X.2
  | [], _ => rfl
  | e :: l, X => by rw [cps, cps_2 l, wc_2]
theorem cps_at {b m : Nat} {e : Nat × Nat} {i : Nat} (hi : i < e.2) : ∀ (l : List (Nat × Nat)) (X : Wd), (∀ q, q ∈ l → b + q.1 ≠ m + e.1) → (l.map Prod.fst).Nodup → e ∈ l → (cps b m l X).1 (b + e.1) i = X.1 (m + e.1) i
  | [], _, _, _, h => by cases h
  | q :: l, X, hs, hn, h => by
    have hn' := List.nodup_cons.mp hn
    rw [cps]
    by_cases c : q = e
    · subst c
      rw [cps_row l _ (fun x hx y => hn'.1 (by
        have : x.1 = q.1 := by omega
        rw [← this]
        exact List.mem_map_of_mem hx)), wc_eq, cpy_at hi]
    · rw [cps_at hi l _ (fun x hx => hs x (List.mem_cons_of_mem _ hx)) hn'.2 (by
        cases h with
        | head => exact absurd rfl c
        | tail _ y => exact y), wc_row (fun y => hs q (List.mem_cons_self) y.symm)]
def mrows : List (Nat × Nat) := [(1, 5), (2, 5), (3, 5), (4, 5), (5, 5), (6, 5), (7, 5), (8, 30), (9, 30), (10, 10), (11, 10), (12, 10)]
theorem mrows_b : ∀ e, e ∈ mrows → 1 ≤ e.1 ∧ e.1 ≤ 12 := by decide
theorem mrows_7 : ∀ j, j < 8 → 1 ≤ j → (j, 5) ∈ mrows := by decide
theorem mrows_9 : ∀ j, j < 10 → 8 ≤ j → (j, 30) ∈ mrows := by decide
theorem mrows_12 : ∀ j, j < 13 → 10 ≤ j → (j, 10) ∈ mrows := by decide
theorem mrows_n : (mrows.map Prod.fst).Nodup := by decide
theorem copyM_eq {b m : Nat} {σ : Wd} : f_X3_copyFrom b m σ = some (0, cps b m mrows (cpc b m [0, 1, 2, 3, 4] σ)) := by
  unfold f_X3_copyFrom mrows
  rw [nm_W]
  generalize h1 : wi σ b 0 (σ.1 m 0) = s1
  rw [nm_W]
  generalize h2 : wi s1 b 1 (s1.1 m 1) = s2
  rw [nm_W]
  generalize h3 : wi s2 b 2 (s2.1 m 2) = s3
  rw [nm_W]
  generalize h4 : wi s3 b 3 (s3.1 m 3) = s4
  rw [nm_W]
  generalize h5 : wi s4 b 4 (s4.1 m 4) = s5
  rw [nm_W]
  generalize h6 : wc s5 (b + 1) (va_cpy (s5.1 (m + 1)) (s5.1 (b + 1)) 0 0 5) = s6
  rw [nm_W]
  generalize h7 : wc s6 (b + 2) (va_cpy (s6.1 (m + 2)) (s6.1 (b + 2)) 0 0 5) = s7
  rw [nm_W]
  generalize h8 : wc s7 (b + 3) (va_cpy (s7.1 (m + 3)) (s7.1 (b + 3)) 0 0 5) = s8
  rw [nm_W]
  generalize h9 : wc s8 (b + 4) (va_cpy (s8.1 (m + 4)) (s8.1 (b + 4)) 0 0 5) = s9
  rw [nm_W]
  generalize h10 : wc s9 (b + 5) (va_cpy (s9.1 (m + 5)) (s9.1 (b + 5)) 0 0 5) = s10
  rw [nm_W]
  generalize h11 : wc s10 (b + 6) (va_cpy (s10.1 (m + 6)) (s10.1 (b + 6)) 0 0 5) = s11
  rw [nm_W]
  generalize h12 : wc s11 (b + 7) (va_cpy (s11.1 (m + 7)) (s11.1 (b + 7)) 0 0 5) = s12
  rw [nm_W]
  generalize h13 : wc s12 (b + 8) (va_cpy (s12.1 (m + 8)) (s12.1 (b + 8)) 0 0 30) = s13
  rw [nm_W]
  generalize h14 : wc s13 (b + 9) (va_cpy (s13.1 (m + 9)) (s13.1 (b + 9)) 0 0 30) = s14
  rw [nm_W]
  generalize h15 : wc s14 (b + 10) (va_cpy (s14.1 (m + 10)) (s14.1 (b + 10)) 0 0 10) = s15
  rw [nm_W]
  generalize h16 : wc s15 (b + 11) (va_cpy (s15.1 (m + 11)) (s15.1 (b + 11)) 0 0 10) = s16
  rw [nm_W]
  generalize h17 : wc s16 (b + 12) (va_cpy (s16.1 (m + 12)) (s16.1 (b + 12)) 0 0 10) = s17
  rw [cpc, h1, cpc, h2, cpc, h3, cpc, h4, cpc, h5, cpc]
  rw [cps, h6, cps, h7, cps, h8, cps, h9, cps, h10, cps, h11, cps, h12, cps, h13, cps, h14, cps, h15, cps, h16, cps, h17, cps]
theorem cCopyM {b m : Nat} {σ : Wd} (hs : b + 12 < m ∨ m + 12 < b) : ∃ σ', f_X3_copyFrom b m σ = some (0, σ') ∧ (∀ i, i < 5 → σ'.1 b i = σ.1 m i) ∧ (∀ j, 1 ≤ j → j ≤ 7 → ∀ i, i < 5 → σ'.1 (b + j) i = σ.1 (m + j) i) ∧ (∀ j, 8 ≤ j → j ≤ 9 → ∀ i, i < 30 → σ'.1 (b + j) i = σ.1 (m + j) i) ∧ (∀ j, 10 ≤ j → j ≤ 12 → ∀ i, i < 10 → σ'.1 (b + j) i = σ.1 (m + j) i)
    ∧ (∀ k, k < b ∨ b + 12 < k → σ'.1 k = σ.1 k) ∧ σ'.2 = σ.2 := by
  have key : ∀ e i, e ∈ mrows → i < e.2 → (cps b m mrows (cpc b m [0, 1, 2, 3, 4] σ)).1 (b + e.1) i = σ.1 (m + e.1) i := fun e i he hi => by
    have := mrows_b e he
    rw [cps_at hi mrows _ (fun q hq => by have := mrows_b q hq; omega) mrows_n he, cpc_row (by omega)]
  refine ⟨cps b m mrows (cpc b m [0, 1, 2, 3, 4] σ), copyM_eq, fun i hi => ?_, fun j h1 h2 i hi => key (j, 5) i (mrows_7 j (by omega) h1) hi, fun j h1 h2 i hi => key (j, 30) i (mrows_9 j (by omega) h1) hi, fun j h1 h2 i hi => key (j, 10) i (mrows_12 j (by omega) h1) hi, fun k hk => ?_, by rw [cps_2, cpc_2]⟩
  · rw [cps_row mrows _ (fun q hq => by have := mrows_b q hq; omega), cpc_at (by omega)]
    rcases (show i = 0 ∨ i = 1 ∨ i = 2 ∨ i = 3 ∨ i = 4 by omega) with c | c | c | c | c <;> subst c <;> decide
  · rw [cps_row mrows _ (fun q hq => by have := mrows_b q hq; omega), cpc_row (by omega)]
def rrows : List (Nat × Nat) := [(1, 5), (2, 5), (3, 5), (4, 5), (5, 5), (6, 5), (7, 5), (8, 5)]
theorem rrows_b : ∀ e, e ∈ rrows → 1 ≤ e.1 ∧ e.1 ≤ 8 := by decide
theorem rrows_8 : ∀ j, j < 9 → 1 ≤ j → (j, 5) ∈ rrows := by decide
theorem rrows_n : (rrows.map Prod.fst).Nodup := by decide
def lrows : List (Nat × Nat) := [(1, 30), (2, 30), (3, 30)]
theorem lrows_b : ∀ e, e ∈ lrows → 1 ≤ e.1 ∧ e.1 ≤ 3 := by decide
theorem lrows_3 : ∀ j, j < 4 → 1 ≤ j → (j, 30) ∈ lrows := by decide
theorem lrows_n : (lrows.map Prod.fst).Nodup := by decide
def cpR (b r : Nat) (σ : Wd) : Wd := cps (b + 9) (r + 9) lrows (cpc (b + 9) (r + 9) [0] (cps b r rrows (cpc b r [0, 1, 2, 3, 4, 5, 6, 7] σ)))
theorem copyR_eq {b r : Nat} {σ : Wd} (e : isb (σ.1 r 0) = true) : f_X4_copyFrom b r σ = some (0, cpR b r σ) := by
  unfold f_X4_copyFrom cpR rrows lrows
  rw [e, gd_t]
  rw [nm_W]
  generalize h1 : wi σ b 0 (σ.1 r 0) = s1
  rw [nm_W]
  generalize h2 : wi s1 b 1 (s1.1 r 1) = s2
  rw [nm_W]
  generalize h3 : wi s2 b 2 (s2.1 r 2) = s3
  rw [nm_W]
  generalize h4 : wi s3 b 3 (s3.1 r 3) = s4
  rw [nm_W]
  generalize h5 : wi s4 b 4 (s4.1 r 4) = s5
  rw [nm_W]
  generalize h6 : wi s5 b 5 (s5.1 r 5) = s6
  rw [nm_W]
  generalize h7 : wi s6 b 6 (s6.1 r 6) = s7
  rw [nm_W]
  generalize h8 : wi s7 b 7 (s7.1 r 7) = s8
  rw [nm_W]
  generalize h9 : wc s8 (b + 1) (va_cpy (s8.1 (r + 1)) (s8.1 (b + 1)) 0 0 5) = s9
  rw [nm_W]
  generalize h10 : wc s9 (b + 2) (va_cpy (s9.1 (r + 2)) (s9.1 (b + 2)) 0 0 5) = s10
  rw [nm_W]
  generalize h11 : wc s10 (b + 3) (va_cpy (s10.1 (r + 3)) (s10.1 (b + 3)) 0 0 5) = s11
  rw [nm_W]
  generalize h12 : wc s11 (b + 4) (va_cpy (s11.1 (r + 4)) (s11.1 (b + 4)) 0 0 5) = s12
  rw [nm_W]
  generalize h13 : wc s12 (b + 5) (va_cpy (s12.1 (r + 5)) (s12.1 (b + 5)) 0 0 5) = s13
  rw [nm_W]
  generalize h14 : wc s13 (b + 6) (va_cpy (s13.1 (r + 6)) (s13.1 (b + 6)) 0 0 5) = s14
  rw [nm_W]
  generalize h15 : wc s14 (b + 7) (va_cpy (s14.1 (r + 7)) (s14.1 (b + 7)) 0 0 5) = s15
  rw [nm_W]
  generalize h16 : wc s15 (b + 8) (va_cpy (s15.1 (r + 8)) (s15.1 (b + 8)) 0 0 5) = s16
  unfold f_X2_copyFrom
  rw [nm_W]
  generalize h17 : wi s16 (b + 9) 0 (s16.1 (r + 9) 0) = s17
  rw [nm_W]
  generalize h18 : wc s17 (b + 9 + 1) (va_cpy (s17.1 (r + 9 + 1)) (s17.1 (b + 9 + 1)) 0 0 30) = s18
  rw [nm_W]
  generalize h19 : wc s18 (b + 9 + 2) (va_cpy (s18.1 (r + 9 + 2)) (s18.1 (b + 9 + 2)) 0 0 30) = s19
  rw [nm_W]
  generalize h20 : wc s19 (b + 9 + 3) (va_cpy (s19.1 (r + 9 + 3)) (s19.1 (b + 9 + 3)) 0 0 30) = s20
  have e1 : cpc b r [0, 1, 2, 3, 4, 5, 6, 7] σ = s8 := by rw [cpc, h1, cpc, h2, cpc, h3, cpc, h4, cpc, h5, cpc, h6, cpc, h7, cpc, h8, cpc]
  have e2 : cps b r [(1, 5), (2, 5), (3, 5), (4, 5), (5, 5), (6, 5), (7, 5), (8, 5)] s8 = s16 := by rw [cps, h9, cps, h10, cps, h11, cps, h12, cps, h13, cps, h14, cps, h15, cps, h16, cps]
  have e3 : cpc (b + 9) (r + 9) [0] s16 = s17 := by rw [cpc, h17, cpc]
  have e4 : cps (b + 9) (r + 9) [(1, 30), (2, 30), (3, 30)] s17 = s20 := by rw [cps, h18, cps, h19, cps, h20, cps]
  rw [e1, e2, e3, e4]
  rfl
theorem cCopyR {b r : Nat} {σ : Wd} {x : Bool} (hs : b + 12 < r ∨ r + 12 < b) (hb : σ.1 r 0 = I (bn x)) : ∃ σ', f_X4_copyFrom b r σ = some (0, σ') ∧ (∀ i, i < 8 → σ'.1 b i = σ.1 r i) ∧ (∀ j, 1 ≤ j → j ≤ 8 → ∀ i, i < 5 → σ'.1 (b + j) i = σ.1 (r + j) i) ∧ σ'.1 (b + 9) 0 = σ.1 (r + 9) 0 ∧ (∀ j, 10 ≤ j → j ≤ 12 → ∀ i, i < 30 → σ'.1 (b + j) i = σ.1 (r + j) i)
    ∧ (∀ k, k < b ∨ b + 12 < k → σ'.1 k = σ.1 k) ∧ σ'.2 = σ.2 := by
  have e : isb (σ.1 r 0) = true := by rw [hb]; exact isb_b x
  have lo : ∀ k, (k < b + 9 ∨ b + 12 < k) → (cpR b r σ).1 k = (cps b r rrows (cpc b r [0, 1, 2, 3, 4, 5, 6, 7] σ)).1 k := fun k hk => by
    unfold cpR
    rw [cps_row lrows _ (fun q hq => by have := lrows_b q hq; omega), cpc_row (by omega)]
  refine ⟨cpR b r σ, copyR_eq e, fun i hi => ?_, fun j h1 h2 i hi => ?_, ?_, fun j h1 h2 i hi => ?_, fun k hk => ?_, ?_⟩
  · rw [lo b (by omega), cps_row rrows _ (fun q hq => by have := rrows_b q hq; omega), cpc_at (by omega)]
    rcases (show i = 0 ∨ i = 1 ∨ i = 2 ∨ i = 3 ∨ i = 4 ∨ i = 5 ∨ i = 6 ∨ i = 7 by omega) with c | c | c | c | c | c | c | c <;> subst c <;> decide
  · have he := rrows_8 j (by omega) h1
    rw [lo (b + j) (by omega), show b + j = b + ((j, 5) : Nat × Nat).1 from rfl, cps_at (e := (j, 5)) hi rrows _ (fun q hq => by have := rrows_b q hq; show b + q.1 ≠ r + j; omega) rrows_n he, cpc_row (show r + j ≠ b by omega)]
  · unfold cpR
    rw [cps_row lrows _ (fun q hq => by have := lrows_b q hq; omega), cpc_at (by omega) _ _ (by decide), cps_row rrows _ (fun q hq => by have := rrows_b q hq; omega), cpc_row (by omega)]
  · obtain ⟨a, ha⟩ : ∃ a, a = j - 9 := ⟨_, rfl⟩
    have he := lrows_3 a (by omega) (by omega)
    unfold cpR
    rw [show b + j = b + 9 + ((a, 30) : Nat × Nat).1 from by show _ = b + 9 + a; omega, cps_at (e := (a, 30)) hi lrows _ (fun q hq => by have := lrows_b q hq; show b + 9 + q.1 ≠ r + 9 + a; omega) lrows_n he, cpc_row (show r + 9 + a ≠ b + 9 by omega), cps_row rrows _ (fun q hq => by have := rrows_b q hq; show b + q.1 ≠ r + 9 + a; omega), cpc_row (show r + 9 + a ≠ b by omega), show r + 9 + a = r + j from by omega]
  · rw [lo k (by omega), cps_row rrows _ (fun q hq => by have := rrows_b q hq; omega), cpc_row (by omega)]
  · unfold cpR
    rw [cps_2, cpc_2, cps_2, cpc_2]
theorem r_cpy {a b : Nat} (hab : a ≠ b) : ∀ (rr i n : Nat) (z : Int) (τ : Wd), z = (i : Int) → i + rr = 179 → rr < n → (∀ j, j < i → τ.1 b j = τ.1 a j) → ∃ τ', f_X7_copies_2 a 179 b 179 n (I z) τ = some (0, τ') ∧ (∀ j, j < 179 → τ'.1 b j = τ.1 a j) ∧ (∀ k, k ≠ b → τ'.1 k = τ.1 k) ∧ τ'.2 = τ.2
  | 0, i, n + 1, z, τ, hz, hi, _, h => by
    refine ⟨τ, ?_, fun j hj => h j (by omega), fun _ _ => rfl, rfl⟩
    rw [f_X7_copies_2]
    simp (disch := omega) only [gd_t, bd_s, nm_W, nm_I, I_add, I_sub, I_mul, I_neg, I_le_t, I_le_f, I_lt_t, I_lt_f, I_eq_t, I_eq_f, I_inb', I_ix', Int.toNat_natCast, decide_true, decide_false, Bool.not_false, Bool.not_true, if_true, if_false, wi_eq, wi_eq', wi_ne, wi_row, wi_2, N0, N1, N2, N3, N4, N5, N6, N7, N8, N9, N10, N11, N12, N13, N14, N15, N16, N17, N18, N19, N20, N21, N22, N23, N24, N25, N26, N27, N28, N29, N30, N31, N32, N33, N34, N35, N36, N37, N38, N39, N40, N41, N42, N43, N45, N48, N57, N59, N88, N89, N97, N99, N120, N121, N122, N179, N200, N255, N300, N400, N880, N900, N999, N1019, N50000000, N100000000, N1000000000, N2147483647, N2147483648]
  | rr + 1, i, n + 1, z, τ, hz, hi, hn, h => by
    have tz : z.toNat = i := by omega
    obtain ⟨τ', q1, q2, q3, q4⟩ := r_cpy hab rr (i + 1) n (z + 1) (wi τ b i (τ.1 a i)) (by omega) (by omega) (by omega) (fun j hj => by
      rw [wi_row hab]
      by_cases c : j = i
      · rw [c, wi_eq]
      · rw [wi_ne c]; exact h j (by omega))
    refine ⟨τ', ?_, fun j hj => by rw [q2 j hj, wi_row hab], fun k hk => by rw [q3 k hk, wi_row hk], by rw [q4, wi_2]⟩
    rw [← q1, f_X7_copies_2]
    simp (disch := omega) only [gd_t, bd_s, nm_W, nm_I, I_add, I_sub, I_mul, I_neg, I_le_t, I_le_f, I_lt_t, I_lt_f, I_eq_t, I_eq_f, I_inb', I_ix', Int.toNat_natCast, decide_true, decide_false, Bool.not_false, Bool.not_true, if_true, if_false, wi_eq, wi_eq', wi_ne, wi_row, wi_2, N0, N1, N2, N3, N4, N5, N6, N7, N8, N9, N10, N11, N12, N13, N14, N15, N16, N17, N18, N19, N20, N21, N22, N23, N24, N25, N26, N27, N28, N29, N30, N31, N32, N33, N34, N35, N36, N37, N38, N39, N40, N41, N42, N43, N45, N48, N57, N59, N88, N89, N97, N99, N120, N121, N122, N179, N200, N255, N300, N400, N880, N900, N999, N1019, N50000000, N100000000, N1000000000, N2147483647, N2147483648, tz]
theorem rCopy {a b : Nat} {τ : Wd} (hab : a ≠ b) : ∃ τ', f_X7_copies a 179 b 179 τ = some (0, τ') ∧ (∀ j, j < 179 → τ'.1 b j = τ.1 a j) ∧ (∀ k, k ≠ b → τ'.1 k = τ.1 k) ∧ τ'.2 = τ.2 :=
  r_cpy hab 179 0 FU 0 τ rfl rfl (by decide) (fun j hj => absurd hj (by omega))
set_option maxHeartbeats 1000000 in
theorem QQ_move {m r m' r' V E : Nat} {d : MD} {σ τ σ' τ' : Wd} {p L W : Int} {dl pl et : Nat → Int} {b : Bool} {t s rd : Int} {h n g : Nat → Int} (hQ : QQ m r σ τ V E d p L W dl pl et b t s rd h n g)
    (m0 : ∀ i, i < 5 → σ'.1 m' i = σ.1 m i) (m1 : ∀ j, 1 ≤ j → j ≤ 7 → ∀ i, i < 5 → σ'.1 (m' + j) i = σ.1 (m + j) i) (m8 : ∀ j, 8 ≤ j → j ≤ 9 → ∀ i, i < 30 → σ'.1 (m' + j) i = σ.1 (m + j) i) (m10 : ∀ j, 10 ≤ j → j ≤ 12 → ∀ i, i < 10 → σ'.1 (m' + j) i = σ.1 (m + j) i)
    (r0 : ∀ i, i < 8 → σ'.1 r' i = σ.1 r i) (r1 : ∀ j, 1 ≤ j → j ≤ 8 → ∀ i, i < 5 → σ'.1 (r' + j) i = σ.1 (r + j) i) (r9 : σ'.1 (r' + 9) 0 = σ.1 (r + 9) 0) (r10 : ∀ j, 10 ≤ j → j ≤ 12 → ∀ i, i < 30 → σ'.1 (r' + j) i = σ.1 (r + j) i)
    (e2 : ∀ i, 12 ≤ i → i ≤ 15 → τ'.1 102 i = τ.1 102 i) (e3 : τ'.1 103 = τ.1 103) (e4 : τ'.1 104 = τ.1 104) (e5 : τ'.1 105 = τ.1 105) (e6 : ∀ i, i < 179 → τ'.1 112 i = τ.1 112 i) : QQ m' r' σ' τ' V E d p L W dl pl et b t s rd h n g := by
  obtain ⟨⟨a1, a2, a3, a4, a5, a6, a7, a8⟩, ⟨b1, b2, b3, b4, b5⟩, ⟨⟨y0, y0'⟩, ⟨y1, y1', t0, t1⟩, ⟨y2, y2', y3, y4⟩, y5, y6, y7, y8⟩, ⟨np, np1, np2, np3, np4⟩, hP, ⟨c, sl, l1, l2, l3, l4, l5⟩, hn, ⟨r6, rd0, rd1⟩, hb, hz⟩ := hQ
  have h5 := a1.1
  have h6 := lv6 a1
  refine ⟨⟨a1, ?_, ?_, ?_, ?_, ?_, fun v hv => ?_, fun v hv => ?_⟩, ⟨b1, ?_, ?_, fun i hi => ?_, b5⟩, ⟨⟨?_, ?_⟩, ⟨?_, ?_, t0, t1⟩, ⟨?_, ?_, y3, y4⟩, ?_, ?_, ?_, ?_⟩, ⟨np, ?_, np2, np3, np4⟩, fun w hw => ?_, ⟨c, sl, l1, ?_, ?_, fun i hi => ?_, l5⟩, hn, ⟨?_, rd0, rd1⟩, hb, hz⟩
  · refine ⟨by rw [m0 3 (by decide)]; exact a2.1, fun v hv => ?_⟩
    obtain ⟨x1, x2, x3, x4, x5, x6⟩ := a2.2 v hv
    refine ⟨by rw [m1 1 (by decide) (by decide) v (by omega)]; exact x1, by rw [m1 2 (by decide) (by decide) v (by omega)]; exact x2, by rw [m1 3 (by decide) (by decide) v (by omega)]; exact x3, by rw [m1 4 (by decide) (by decide) v (by omega)]; exact x4, by rw [m1 6 (by decide) (by decide) v (by omega)]; exact x5, fun k hk => ?_⟩
    have := h6 v hv
    exact ⟨by rw [m8 8 (by decide) (by decide) _ (by omega)]; exact (x6 k hk).1, by rw [m8 9 (by decide) (by decide) _ (by omega)]; exact (x6 k hk).2⟩
  · exact RV_cells a3 h5 h6 (e2 14 (by decide) (by decide)) e3 e4 (fun i hi => e6 i (by omega))
  · rw [m0 1 (by decide), e2 12 (by decide) (by decide)]; exact a4
  · rw [m0 2 (by decide), e2 13 (by decide) (by decide)]; exact a5
  · rw [m0 0 (by decide), e6 35 (by decide)]; exact a6
  · rw [m1 5 (by decide) (by decide) v (by omega), e3]; exact a7 v hv
  · rw [m1 7 (by decide) (by decide) v (by omega), e6 (43 + v) (by omega)]; exact a8 v hv
  · rw [m0 4 (by decide)]; exact b2
  · rw [e2 15 (by decide) (by decide)]; exact b3
  · rw [m10 10 (by decide) (by decide) i (by omega), m10 11 (by decide) (by decide) i (by omega), m10 12 (by decide) (by decide) i (by omega), e5]; exact b4 i hi
  · rw [r0 0 (by decide)]; exact y0
  · rw [e6 36 (by decide)]; exact y0'
  · rw [r0 1 (by decide)]; exact y1
  · rw [e6 37 (by decide)]; exact y1'
  · rw [r0 2 (by decide)]; exact y2
  · rw [e6 38 (by decide)]; exact y2'
  · rw [r0 3 (by decide), e6 39 (by decide)]; exact y5
  · rw [r0 4 (by decide), e6 40 (by decide)]; exact y6
  · rw [r0 5 (by decide), e6 41 (by decide)]; exact y7
  · rw [r0 6 (by decide), e6 42 (by decide)]; exact y8
  · rw [r0 7 (by decide)]; exact np1
  · have q := hP w hw
    unfold QP at q ⊢
    rw [r1 1 (by decide) (by decide) w (by omega), r1 2 (by decide) (by decide) w (by omega), r1 3 (by decide) (by decide) w (by omega), r1 4 (by decide) (by decide) w (by omega), r1 5 (by decide) (by decide) w (by omega), r1 6 (by decide) (by decide) w (by omega), r1 7 (by decide) (by decide) w (by omega), r1 8 (by decide) (by decide) w (by omega),
      e6 (48 + 8 * w) (by omega), e6 (49 + 8 * w) (by omega), e6 (50 + 8 * w) (by omega), e6 (51 + 8 * w) (by omega), e6 (52 + 8 * w) (by omega), e6 (53 + 8 * w) (by omega), e6 (54 + 8 * w) (by omega), e6 (55 + 8 * w) (by omega), e3]
    exact q
  · rw [r9]; exact l2
  · rw [e6 88 (by decide)]; exact l3
  · rw [show r' + 9 + 1 = r' + 10 from rfl, show r' + 9 + 2 = r' + 11 from rfl, show r' + 9 + 3 = r' + 12 from rfl, r10 10 (by decide) (by decide) i (by omega), r10 11 (by decide) (by decide) i (by omega), r10 12 (by decide) (by decide) i (by omega), e6 (89 + 3 * i) (by omega), e6 (90 + 3 * i) (by omega), e6 (91 + 3 * i) (by omega)]
    exact l4 i hi
  · rw [r0 6 (by decide)]; exact r6
