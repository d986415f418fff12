/-! PURE: the text: a venue that is told; kind; fee; the start of a line -/
theorem found_ok {m N pl V : Nat} {bt : Nat → Int} {σ τ : Wd} {k n : Int} {l : List Int} {nm : Nat → List Int} (hm : 10 < m) (hB : BY σ τ N bt) (hT : TK σ τ N bt pl k l n) (hN : NMS σ τ V nm) (c3 : σ.1 m 3 = I (V : Int)) (e19 : τ.1 102 19 = I (V : Int)) :
    (∃ (σ' τ' : Wd), f_X5_findsVenue m σ = some (I 0, σ') ∧ f_X7_knownVenue τ = some (I 0, τ') ∧ BD σ' τ' ∧ CG σ σ' ∧ RX τ τ')
    ∨ (∃ (u : Nat), u < V ∧ k = 1 ∧ f_X5_findsVenue m σ = some (I 1, wi σ 1 10 (I (u : Int))) ∧ f_X7_knownVenue τ = some (I (u : Int), τ) ∧ TK (wi σ 1 10 (I (u : Int))) τ N bt pl k l n) := by
  obtain ⟨a, b⟩ := name_ok hB hT
  have e33 := (TK_33 hT).1
  have h5 := hN.1
  cases c : nmb k l with
  | false =>
    rw [c, bn_f] at a b
    refine Or.inl ?_
    obtain ⟨σ', τ', q1, q2, q3, q4, q5⟩ := bad_ok (c := 1) hT (by omega)
    obtain ⟨f, pf, -, -, hF⟩ := id q3
    have e2 := ft_flaw (c := I 2) hF
    obtain ⟨f1, f2, f3, f4, f5⟩ := hF
    refine ⟨σ', τ', ?_, ?_, q3, q4, q5⟩
    · unfold f_X5_findsVenue
      simp (disch := omega) only [gd_t, bd_s, nm_W, nm_I, I_add, I_sub, I_mul, I_neg, I_le_t, I_le_f, I_lt_t, I_lt_f, I_eq_t, I_eq_f, I_inb', I_ix', Int.toNat_natCast, decide_true, decide_false, Bool.not_false, Bool.not_true, if_true, if_false, wi_eq, wi_eq', wi_ne, wi_row, wi_2, N0, N1, N2, N3, N4, N5, N6, N7, N8, N9, N10, N11, N12, N13, N14, N15, N16, N17, N18, N19, N20, N21, N22, N23, N24, N25, N26, N27, N28, N29, N30, N31, N32, N33, N34, N35, N36, N37, N38, N39, N40, N41, N42, N43, N45, N48, N57, N59, N88, N89, N97, N99, N120, N121, N122, N179, N200, N255, N300, N400, N880, N900, N999, N1019, N50000000, N100000000, N1000000000, N2147483647, N2147483648, a, q1, isb_0]
    · unfold f_X7_knownVenue f_X7_knownVenue_12 f_X7_knownVenue_27 f_X7_knownVenue_38 f_X7_knownVenue_50
      simp (disch := omega) only [gd_t, bd_s, nm_W, nm_I, I_add, I_sub, I_mul, I_neg, I_le_t, I_le_f, I_lt_t, I_lt_f, I_eq_t, I_eq_f, I_inb', I_ix', Int.toNat_natCast, decide_true, decide_false, Bool.not_false, Bool.not_true, if_true, if_false, wi_eq, wi_eq', wi_ne, wi_row, wi_2, N0, N1, N2, N3, N4, N5, N6, N7, N8, N9, N10, N11, N12, N13, N14, N15, N16, N17, N18, N19, N20, N21, N22, N23, N24, N25, N26, N27, N28, N29, N30, N31, N32, N33, N34, N35, N36, N37, N38, N39, N40, N41, N42, N43, N45, N48, N57, N59, N88, N89, N97, N99, N120, N121, N122, N179, N200, N255, N300, N400, N880, N900, N999, N1019, N50000000, N100000000, N1000000000, N2147483647, N2147483648, b, q2, f1, e2]
  | true =>
    rw [c, bn_t] at a b
    obtain ⟨t1, t2, t3, t4⟩ := TK_1 hT (nmb_1 c)
    have fd := find_ok hN t1 t2 t4 e19 V 0 FU FU 0 rfl (by omega) (by show _ < 6000; omega) (by show _ < 6000; omega)
    rcases fd with ⟨p1, p2⟩ | ⟨u, hu, p1, p2⟩
    · refine Or.inl ?_
      have hT1 : TK (wi σ 1 10 (I (-1))) τ N bt pl k l n := TK_c hT (fun i hi => wi_ne hi) (fun _ _ _ => rfl) rfl
      obtain ⟨σ', τ', q1, q2, q3, q4, q5⟩ := bad_ok (c := 2) hT1 (by omega)
      obtain ⟨f, pf, -, -, hF⟩ := id q3
      obtain ⟨f1, f2, f3, f4, f5⟩ := hF
      refine ⟨σ', τ', ?_, ?_, q3, CGt CGw q4, q5⟩
      · unfold f_X5_findsVenue f_X5_findsVenue_50
        simp (disch := omega) only [gd_t, bd_s, nm_W, nm_I, I_add, I_sub, I_mul, I_neg, I_le_t, I_le_f, I_lt_t, I_lt_f, I_eq_t, I_eq_f, I_inb', I_ix', Int.toNat_natCast, decide_true, decide_false, Bool.not_false, Bool.not_true, if_true, if_false, wi_eq, wi_eq', wi_ne, wi_row, wi_2, N0, N1, N2, N3, N4, N5, N6, N7, N8, N9, N10, N11, N12, N13, N14, N15, N16, N17, N18, N19, N20, N21, N22, N23, N24, N25, N26, N27, N28, N29, N30, N31, N32, N33, N34, N35, N36, N37, N38, N39, N40, N41, N42, N43, N45, N48, N57, N59, N88, N89, N97, N99, N120, N121, N122, N179, N200, N255, N300, N400, N880, N900, N999, N1019, N50000000, N100000000, N1000000000, N2147483647, N2147483648, a, f_X5_venueNamed, t3, c3, p1, q1, isb_0]
      · unfold f_X7_knownVenue f_X7_knownVenue_12 f_X7_knownVenue_27 f_X7_knownVenue_38 f_X7_knownVenue_50
        simp (disch := omega) only [gd_t, bd_s, nm_W, nm_I, I_add, I_sub, I_mul, I_neg, I_le_t, I_le_f, I_lt_t, I_lt_f, I_eq_t, I_eq_f, I_inb', I_ix', Int.toNat_natCast, decide_true, decide_false, Bool.not_false, Bool.not_true, if_true, if_false, wi_eq, wi_eq', wi_ne, wi_row, wi_2, N0, N1, N2, N3, N4, N5, N6, N7, N8, N9, N10, N11, N12, N13, N14, N15, N16, N17, N18, N19, N20, N21, N22, N23, N24, N25, N26, N27, N28, N29, N30, N31, N32, N33, N34, N35, N36, N37, N38, N39, N40, N41, N42, N43, N45, N48, N57, N59, N88, N89, N97, N99, N120, N121, N122, N179, N200, N255, N300, N400, N880, N900, N999, N1019, N50000000, N100000000, N1000000000, N2147483647, N2147483648, b, e33, f_X7_venueBy, p2, q2, f1]
    · refine Or.inr ⟨u, hu, nmb_1 c, ?_, ?_, TK_c hT (fun i hi => wi_ne hi) (fun _ _ _ => rfl) rfl⟩
      · unfold f_X5_findsVenue f_X5_findsVenue_45 f_X5_findsVenue_50
        simp (disch := omega) only [gd_t, bd_s, nm_W, nm_I, I_add, I_sub, I_mul, I_neg, I_le_t, I_le_f, I_lt_t, I_lt_f, I_eq_t, I_eq_f, I_inb', I_ix', Int.toNat_natCast, decide_true, decide_false, Bool.not_false, Bool.not_true, if_true, if_false, wi_eq, wi_eq', wi_ne, wi_row, wi_2, N0, N1, N2, N3, N4, N5, N6, N7, N8, N9, N10, N11, N12, N13, N14, N15, N16, N17, N18, N19, N20, N21, N22, N23, N24, N25, N26, N27, N28, N29, N30, N31, N32, N33, N34, N35, N36, N37, N38, N39, N40, N41, N42, N43, N45, N48, N57, N59, N88, N89, N97, N99, N120, N121, N122, N179, N200, N255, N300, N400, N880, N900, N999, N1019, N50000000, N100000000, N1000000000, N2147483647, N2147483648, a, f_X5_venueNamed, t3, c3, p1, isb_1]
      · unfold f_X7_knownVenue f_X7_knownVenue_12 f_X7_knownVenue_27 f_X7_knownVenue_38 f_X7_knownVenue_50
        simp (disch := omega) only [gd_t, bd_s, nm_W, nm_I, I_add, I_sub, I_mul, I_neg, I_le_t, I_le_f, I_lt_t, I_lt_f, I_eq_t, I_eq_f, I_inb', I_ix', Int.toNat_natCast, decide_true, decide_false, Bool.not_false, Bool.not_true, if_true, if_false, wi_eq, wi_eq', wi_ne, wi_row, wi_2, N0, N1, N2, N3, N4, N5, N6, N7, N8, N9, N10, N11, N12, N13, N14, N15, N16, N17, N18, N19, N20, N21, N22, N23, N24, N25, N26, N27, N28, N29, N30, N31, N32, N33, N34, N35, N36, N37, N38, N39, N40, N41, N42, N43, N45, N48, N57, N59, N88, N89, N97, N99, N120, N121, N122, N179, N200, N255, N300, N400, N880, N900, N999, N1019, N50000000, N100000000, N1000000000, N2147483647, N2147483648, b, e33, f_X7_venueBy, p2]
theorem kind_ok {N pl : Nat} {bt : Nat → Int} {σ τ : Wd} {k n : Int} {l : List Int} (hB : BY σ τ N bt) (hT : TK σ τ N bt pl k l n) :
    (∃ (σ' τ' : Wd), f_X5_takesKind σ = some (I 0, σ') ∧ f_X7_readKind τ = some (I (-1), τ') ∧ BD σ' τ' ∧ CG σ σ' ∧ RX τ τ')
    ∨ (∃ (σ' τ' : Wd) (v : Int) (pl' : Nat) (k' : Int) (l' : List Int) (n' : Int), f_X5_takesKind σ = some (I 1, σ') ∧ f_X7_readKind τ = some (I v, τ') ∧ 0 ≤ v ∧ v ≤ 2 ∧ σ'.1 1 10 = I v ∧ TK σ' τ' N bt pl' k' l' n' ∧ pl ≤ pl' ∧ CG σ σ' ∧ RX τ τ') := by
  obtain ⟨a6, b6⟩ := isw_ok (w := 6) (by decide) hB hT
  obtain ⟨a7, b7⟩ := isw_ok (w := 7) (by decide) hB hT
  obtain ⟨a8, b8⟩ := isw_ok (w := 8) (by decide) hB hT
  have good : ∀ v : Int, k = 1 → ∃ (σ' τ' : Wd) (pl' : Nat) (k' : Int) (l' : List Int) (n' : Int), f_X5_takesKind_57 (wi σ 1 10 (I v)) = some (I 1, σ') ∧ f_X7_next τ = some (0, τ') ∧ σ'.1 1 10 = I v ∧ TK σ' τ' N bt pl' k' l' n' ∧ pl ≤ pl' ∧ CG σ σ' ∧ RX τ τ' := fun v hk => by
    have hT1 : TK (wi σ 1 10 (I v)) τ N bt pl k l n := TK_c hT (fun i hi => wi_ne hi) (fun _ _ _ => rfl) rfl
    obtain ⟨σ', τ', pl', k', l', n', q1, q2, q3, q4, q5, q6⟩ := step_ok (BY_f hB CGw RXr) hT1 (by omega)
    refine ⟨σ', τ', pl', k', l', n', ?_, q2, by rw [q5.2.1, wi_eq], q3, q4.1, CGt CGw (CFG q5), q6⟩
    unfold f_X5_takesKind_57
    simp (disch := omega) only [gd_t, bd_s, nm_W, nm_I, I_add, I_sub, I_mul, I_neg, I_le_t, I_le_f, I_lt_t, I_lt_f, I_eq_t, I_eq_f, I_inb', I_ix', Int.toNat_natCast, decide_true, decide_false, Bool.not_false, Bool.not_true, if_true, if_false, wi_eq, wi_eq', wi_ne, wi_row, wi_2, N0, N1, N2, N3, N4, N5, N6, N7, N8, N9, N10, N11, N12, N13, N14, N15, N16, N17, N18, N19, N20, N21, N22, N23, N24, N25, N26, N27, N28, N29, N30, N31, N32, N33, N34, N35, N36, N37, N38, N39, N40, N41, N42, N43, N45, N48, N57, N59, N88, N89, N97, N99, N120, N121, N122, N179, N200, N255, N300, N400, N880, N900, N999, N1019, N50000000, N100000000, N1000000000, N2147483647, N2147483648, q1, isb_1]
  unfold f_X5_takesKind f_X7_readKind f_X7_readKind_40 f_X7_readKind_51
  by_cases c6 : k = 1 ∧ l = lw 6
  · rw [decide_eq_true c6, bn_t] at a6 b6
    obtain ⟨σ', τ', pl', k', l', n', q1, q2, q3⟩ := good 0 c6.1
    refine Or.inr ⟨σ', τ', 0, pl', k', l', n', ?_, ?_, by omega, by omega, q3⟩
    · simp (disch := omega) only [gd_t, bd_s, nm_W, nm_I, I_add, I_sub, I_mul, I_neg, I_le_t, I_le_f, I_lt_t, I_lt_f, I_eq_t, I_eq_f, I_inb', I_ix', Int.toNat_natCast, decide_true, decide_false, Bool.not_false, Bool.not_true, if_true, if_false, wi_eq, wi_eq', wi_ne, wi_row, wi_2, N0, N1, N2, N3, N4, N5, N6, N7, N8, N9, N10, N11, N12, N13, N14, N15, N16, N17, N18, N19, N20, N21, N22, N23, N24, N25, N26, N27, N28, N29, N30, N31, N32, N33, N34, N35, N36, N37, N38, N39, N40, N41, N42, N43, N45, N48, N57, N59, N88, N89, N97, N99, N120, N121, N122, N179, N200, N255, N300, N400, N880, N900, N999, N1019, N50000000, N100000000, N1000000000, N2147483647, N2147483648, a6, q1]
    · simp (disch := omega) only [gd_t, bd_s, nm_W, nm_I, I_add, I_sub, I_mul, I_neg, I_le_t, I_le_f, I_lt_t, I_lt_f, I_eq_t, I_eq_f, I_inb', I_ix', Int.toNat_natCast, decide_true, decide_false, Bool.not_false, Bool.not_true, if_true, if_false, wi_eq, wi_eq', wi_ne, wi_row, wi_2, N0, N1, N2, N3, N4, N5, N6, N7, N8, N9, N10, N11, N12, N13, N14, N15, N16, N17, N18, N19, N20, N21, N22, N23, N24, N25, N26, N27, N28, N29, N30, N31, N32, N33, N34, N35, N36, N37, N38, N39, N40, N41, N42, N43, N45, N48, N57, N59, N88, N89, N97, N99, N120, N121, N122, N179, N200, N255, N300, N400, N880, N900, N999, N1019, N50000000, N100000000, N1000000000, N2147483647, N2147483648, b6, q2]
  · rw [decide_eq_false c6, bn_f] at a6 b6
    by_cases c7 : k = 1 ∧ l = lw 7
    · rw [decide_eq_true c7, bn_t] at a7 b7
      obtain ⟨σ', τ', pl', k', l', n', q1, q2, q3⟩ := good 1 c7.1
      refine Or.inr ⟨σ', τ', 1, pl', k', l', n', ?_, ?_, by omega, by omega, q3⟩
      · simp (disch := omega) only [gd_t, bd_s, nm_W, nm_I, I_add, I_sub, I_mul, I_neg, I_le_t, I_le_f, I_lt_t, I_lt_f, I_eq_t, I_eq_f, I_inb', I_ix', Int.toNat_natCast, decide_true, decide_false, Bool.not_false, Bool.not_true, if_true, if_false, wi_eq, wi_eq', wi_ne, wi_row, wi_2, N0, N1, N2, N3, N4, N5, N6, N7, N8, N9, N10, N11, N12, N13, N14, N15, N16, N17, N18, N19, N20, N21, N22, N23, N24, N25, N26, N27, N28, N29, N30, N31, N32, N33, N34, N35, N36, N37, N38, N39, N40, N41, N42, N43, N45, N48, N57, N59, N88, N89, N97, N99, N120, N121, N122, N179, N200, N255, N300, N400, N880, N900, N999, N1019, N50000000, N100000000, N1000000000, N2147483647, N2147483648, a6, a7, q1]
      · simp (disch := omega) only [gd_t, bd_s, nm_W, nm_I, I_add, I_sub, I_mul, I_neg, I_le_t, I_le_f, I_lt_t, I_lt_f, I_eq_t, I_eq_f, I_inb', I_ix', Int.toNat_natCast, decide_true, decide_false, Bool.not_false, Bool.not_true, if_true, if_false, wi_eq, wi_eq', wi_ne, wi_row, wi_2, N0, N1, N2, N3, N4, N5, N6, N7, N8, N9, N10, N11, N12, N13, N14, N15, N16, N17, N18, N19, N20, N21, N22, N23, N24, N25, N26, N27, N28, N29, N30, N31, N32, N33, N34, N35, N36, N37, N38, N39, N40, N41, N42, N43, N45, N48, N57, N59, N88, N89, N97, N99, N120, N121, N122, N179, N200, N255, N300, N400, N880, N900, N999, N1019, N50000000, N100000000, N1000000000, N2147483647, N2147483648, b6, b7, q2]
    · rw [decide_eq_false c7, bn_f] at a7 b7
      by_cases c8 : k = 1 ∧ l = lw 8
      · rw [decide_eq_true c8, bn_t] at a8 b8
        obtain ⟨σ', τ', pl', k', l', n', q1, q2, q3⟩ := good 2 c8.1
        refine Or.inr ⟨σ', τ', 2, pl', k', l', n', ?_, ?_, by omega, by omega, q3⟩
        · simp (disch := omega) only [gd_t, bd_s, nm_W, nm_I, I_add, I_sub, I_mul, I_neg, I_le_t, I_le_f, I_lt_t, I_lt_f, I_eq_t, I_eq_f, I_inb', I_ix', Int.toNat_natCast, decide_true, decide_false, Bool.not_false, Bool.not_true, if_true, if_false, wi_eq, wi_eq', wi_ne, wi_row, wi_2, N0, N1, N2, N3, N4, N5, N6, N7, N8, N9, N10, N11, N12, N13, N14, N15, N16, N17, N18, N19, N20, N21, N22, N23, N24, N25, N26, N27, N28, N29, N30, N31, N32, N33, N34, N35, N36, N37, N38, N39, N40, N41, N42, N43, N45, N48, N57, N59, N88, N89, N97, N99, N120, N121, N122, N179, N200, N255, N300, N400, N880, N900, N999, N1019, N50000000, N100000000, N1000000000, N2147483647, N2147483648, a6, a7, a8, q1]
        · simp (disch := omega) only [gd_t, bd_s, nm_W, nm_I, I_add, I_sub, I_mul, I_neg, I_le_t, I_le_f, I_lt_t, I_lt_f, I_eq_t, I_eq_f, I_inb', I_ix', Int.toNat_natCast, decide_true, decide_false, Bool.not_false, Bool.not_true, if_true, if_false, wi_eq, wi_eq', wi_ne, wi_row, wi_2, N0, N1, N2, N3, N4, N5, N6, N7, N8, N9, N10, N11, N12, N13, N14, N15, N16, N17, N18, N19, N20, N21, N22, N23, N24, N25, N26, N27, N28, N29, N30, N31, N32, N33, N34, N35, N36, N37, N38, N39, N40, N41, N42, N43, N45, N48, N57, N59, N88, N89, N97, N99, N120, N121, N122, N179, N200, N255, N300, N400, N880, N900, N999, N1019, N50000000, N100000000, N1000000000, N2147483647, N2147483648, b6, b7, b8, q2]
      · rw [decide_eq_false c8, bn_f] at a8 b8
        obtain ⟨σ', τ', q1, q2, q3, q4, q5⟩ := bad_ok (c := 1) hT (by omega)
        obtain ⟨f, pf, -, -, hF⟩ := id q3
        have en := ft_next hF
        refine Or.inl ⟨σ', τ', ?_, ?_, q3, q4, q5⟩
        · simp (disch := omega) only [gd_t, bd_s, nm_W, nm_I, I_add, I_sub, I_mul, I_neg, I_le_t, I_le_f, I_lt_t, I_lt_f, I_eq_t, I_eq_f, I_inb', I_ix', Int.toNat_natCast, decide_true, decide_false, Bool.not_false, Bool.not_true, if_true, if_false, wi_eq, wi_eq', wi_ne, wi_row, wi_2, N0, N1, N2, N3, N4, N5, N6, N7, N8, N9, N10, N11, N12, N13, N14, N15, N16, N17, N18, N19, N20, N21, N22, N23, N24, N25, N26, N27, N28, N29, N30, N31, N32, N33, N34, N35, N36, N37, N38, N39, N40, N41, N42, N43, N45, N48, N57, N59, N88, N89, N97, N99, N120, N121, N122, N179, N200, N255, N300, N400, N880, N900, N999, N1019, N50000000, N100000000, N1000000000, N2147483647, N2147483648, a6, a7, a8, q1, isb_0]
        · simp (disch := omega) only [gd_t, bd_s, nm_W, nm_I, I_add, I_sub, I_mul, I_neg, I_le_t, I_le_f, I_lt_t, I_lt_f, I_eq_t, I_eq_f, I_inb', I_ix', Int.toNat_natCast, decide_true, decide_false, Bool.not_false, Bool.not_true, if_true, if_false, wi_eq, wi_eq', wi_ne, wi_row, wi_2, N0, N1, N2, N3, N4, N5, N6, N7, N8, N9, N10, N11, N12, N13, N14, N15, N16, N17, N18, N19, N20, N21, N22, N23, N24, N25, N26, N27, N28, N29, N30, N31, N32, N33, N34, N35, N36, N37, N38, N39, N40, N41, N42, N43, N45, N48, N57, N59, N88, N89, N97, N99, N120, N121, N122, N179, N200, N255, N300, N400, N880, N900, N999, N1019, N50000000, N100000000, N1000000000, N2147483647, N2147483648, b6, b7, b8, q2, en]
theorem rFee_as {τ : Wd} : f_X7_readFeeOf τ = bd (bd (f_X7_isWord 10 τ) fun r1 σ2 => if r1 = 0 then (bd (f_X7_flaw (1 : Int32) σ2) fun _ σ3 => (f_X7_next σ3)) else (f_X7_next σ2)) (fun _ σ1 => bd (f_X7_isSign (45 : Int32) σ1) fun r2 σ3 => if r2 = 0 then (f_X7_readFeeOf_33 r2 σ3) else (bd (f_X7_next σ3) fun _ σ4 => (f_X7_readFeeOf_33 r2 σ4))) := by
  unfold f_X7_readFeeOf f_X7_readFeeOf_14
  rw [bd_as]
  cases f_X7_isWord 10 τ with
  | none => rfl
  | some p =>
    obtain ⟨r, s⟩ := p
    rw [bd_s, bd_s]
    by_cases c : r = 0
    · rw [if_pos c, if_pos c, bd_as]
    · rw [if_neg c, if_neg c]
theorem feeN_ok {N pl : Nat} {bt : Nat → Int} {σ τ : Wd} {k n x : Int} {l : List Int} (hx : x = 0 ∨ x = 1) (hB : BY σ τ N bt) (hT : TK σ τ N bt pl k l n) :
    (∃ (σ' τ' : Wd) (y : Int32), f_X5_takesFee_33 (I x) σ = some (I 0, σ') ∧ f_X7_readFeeOf_33 (I x) τ = some (y, τ') ∧ BD σ' τ' ∧ CG σ σ' ∧ RX τ τ')
    ∨ (∃ (σ' τ' : Wd) (v : Int) (pl' : Nat) (k' : Int) (l' : List Int) (n' : Int), f_X5_takesFee_33 (I x) σ = some (I 1, σ') ∧ f_X7_readFeeOf_33 (I x) τ = some (I v, τ') ∧ -9 ≤ v ∧ v ≤ 9 ∧ σ'.1 1 10 = I v ∧ TK σ' τ' N bt pl' k' l' n' ∧ pl ≤ pl' ∧ CG σ σ' ∧ RX τ τ') := by
  rcases whole_ok (lo := 0) (hi := 9) hB hT (by omega) (by omega) with ⟨σ2, τ2, p1, p2, p3⟩ | ⟨σ2, τ2, v, pl2, k2, l2, n2, p1, p2, p3, p4, p5, p6, p7, p8, p9⟩
  · rcases hx with hx | hx
    · refine Or.inl ⟨σ2, τ2, I 0, ?_, ?_, p3⟩
      · unfold f_X5_takesFee_33
        simp (disch := omega) only [gd_t, bd_s, nm_W, nm_I, I_add, I_sub, I_mul, I_neg, I_le_t, I_le_f, I_lt_t, I_lt_f, I_eq_t, I_eq_f, I_inb', I_ix', Int.toNat_natCast, decide_true, decide_false, Bool.not_false, Bool.not_true, if_true, if_false, wi_eq, wi_eq', wi_ne, wi_row, wi_2, N0, N1, N2, N3, N4, N5, N6, N7, N8, N9, N10, N11, N12, N13, N14, N15, N16, N17, N18, N19, N20, N21, N22, N23, N24, N25, N26, N27, N28, N29, N30, N31, N32, N33, N34, N35, N36, N37, N38, N39, N40, N41, N42, N43, N45, N48, N57, N59, N88, N89, N97, N99, N120, N121, N122, N179, N200, N255, N300, N400, N880, N900, N999, N1019, N50000000, N100000000, N1000000000, N2147483647, N2147483648, p1, isb_0]
      · unfold f_X7_readFeeOf_33 f_X7_readFeeOf_51
        simp (disch := omega) only [gd_t, bd_s, nm_W, nm_I, I_add, I_sub, I_mul, I_neg, I_le_t, I_le_f, I_lt_t, I_lt_f, I_eq_t, I_eq_f, I_inb', I_ix', Int.toNat_natCast, decide_true, decide_false, Bool.not_false, Bool.not_true, if_true, if_false, wi_eq, wi_eq', wi_ne, wi_row, wi_2, N0, N1, N2, N3, N4, N5, N6, N7, N8, N9, N10, N11, N12, N13, N14, N15, N16, N17, N18, N19, N20, N21, N22, N23, N24, N25, N26, N27, N28, N29, N30, N31, N32, N33, N34, N35, N36, N37, N38, N39, N40, N41, N42, N43, N45, N48, N57, N59, N88, N89, N97, N99, N120, N121, N122, N179, N200, N255, N300, N400, N880, N900, N999, N1019, N50000000, N100000000, N1000000000, N2147483647, N2147483648, p2]
    · refine Or.inl ⟨σ2, τ2, I 0, ?_, ?_, p3⟩
      · unfold f_X5_takesFee_33
        simp (disch := omega) only [gd_t, bd_s, nm_W, nm_I, I_add, I_sub, I_mul, I_neg, I_le_t, I_le_f, I_lt_t, I_lt_f, I_eq_t, I_eq_f, I_inb', I_ix', Int.toNat_natCast, decide_true, decide_false, Bool.not_false, Bool.not_true, if_true, if_false, wi_eq, wi_eq', wi_ne, wi_row, wi_2, N0, N1, N2, N3, N4, N5, N6, N7, N8, N9, N10, N11, N12, N13, N14, N15, N16, N17, N18, N19, N20, N21, N22, N23, N24, N25, N26, N27, N28, N29, N30, N31, N32, N33, N34, N35, N36, N37, N38, N39, N40, N41, N42, N43, N45, N48, N57, N59, N88, N89, N97, N99, N120, N121, N122, N179, N200, N255, N300, N400, N880, N900, N999, N1019, N50000000, N100000000, N1000000000, N2147483647, N2147483648, p1, isb_0]
      · unfold f_X7_readFeeOf_33 f_X7_readFeeOf_51
        simp (disch := omega) only [gd_t, bd_s, nm_W, nm_I, I_add, I_sub, I_mul, I_neg, I_le_t, I_le_f, I_lt_t, I_lt_f, I_eq_t, I_eq_f, I_inb', I_ix', Int.toNat_natCast, decide_true, decide_false, Bool.not_false, Bool.not_true, if_true, if_false, wi_eq, wi_eq', wi_ne, wi_row, wi_2, N0, N1, N2, N3, N4, N5, N6, N7, N8, N9, N10, N11, N12, N13, N14, N15, N16, N17, N18, N19, N20, N21, N22, N23, N24, N25, N26, N27, N28, N29, N30, N31, N32, N33, N34, N35, N36, N37, N38, N39, N40, N41, N42, N43, N45, N48, N57, N59, N88, N89, N97, N99, N120, N121, N122, N179, N200, N255, N300, N400, N880, N900, N999, N1019, N50000000, N100000000, N1000000000, N2147483647, N2147483648, p2]
        rfl
  · rcases hx with hx | hx
    · refine Or.inr ⟨wi σ2 1 10 (I v), τ2, v, pl2, k2, l2, n2, ?_, ?_, by omega, by omega, wi_eq, TK_c p6 (fun i hi => wi_ne hi) (fun _ _ _ => rfl) rfl, p7, CGt p8 CGw, p9⟩
      · unfold f_X5_takesFee_33 f_X5_takesFee_62
        simp (disch := omega) only [gd_t, bd_s, nm_W, nm_I, I_add, I_sub, I_mul, I_neg, I_le_t, I_le_f, I_lt_t, I_lt_f, I_eq_t, I_eq_f, I_inb', I_ix', Int.toNat_natCast, decide_true, decide_false, Bool.not_false, Bool.not_true, if_true, if_false, wi_eq, wi_eq', wi_ne, wi_row, wi_2, N0, N1, N2, N3, N4, N5, N6, N7, N8, N9, N10, N11, N12, N13, N14, N15, N16, N17, N18, N19, N20, N21, N22, N23, N24, N25, N26, N27, N28, N29, N30, N31, N32, N33, N34, N35, N36, N37, N38, N39, N40, N41, N42, N43, N45, N48, N57, N59, N88, N89, N97, N99, N120, N121, N122, N179, N200, N255, N300, N400, N880, N900, N999, N1019, N50000000, N100000000, N1000000000, N2147483647, N2147483648, p1, p5, isb_1]
      · unfold f_X7_readFeeOf_33 f_X7_readFeeOf_51
        simp (disch := omega) only [gd_t, bd_s, nm_W, nm_I, I_add, I_sub, I_mul, I_neg, I_le_t, I_le_f, I_lt_t, I_lt_f, I_eq_t, I_eq_f, I_inb', I_ix', Int.toNat_natCast, decide_true, decide_false, Bool.not_false, Bool.not_true, if_true, if_false, wi_eq, wi_eq', wi_ne, wi_row, wi_2, N0, N1, N2, N3, N4, N5, N6, N7, N8, N9, N10, N11, N12, N13, N14, N15, N16, N17, N18, N19, N20, N21, N22, N23, N24, N25, N26, N27, N28, N29, N30, N31, N32, N33, N34, N35, N36, N37, N38, N39, N40, N41, N42, N43, N45, N48, N57, N59, N88, N89, N97, N99, N120, N121, N122, N179, N200, N255, N300, N400, N880, N900, N999, N1019, N50000000, N100000000, N1000000000, N2147483647, N2147483648, p2]
    · refine Or.inr ⟨wi σ2 1 10 (I (-v)), τ2, -v, pl2, k2, l2, n2, ?_, ?_, by omega, by omega, wi_eq, TK_c p6 (fun i hi => wi_ne hi) (fun _ _ _ => rfl) rfl, p7, CGt p8 CGw, p9⟩
      · unfold f_X5_takesFee_33 f_X5_takesFee_62
        simp (disch := omega) only [gd_t, bd_s, nm_W, nm_I, I_add, I_sub, I_mul, I_neg, I_le_t, I_le_f, I_lt_t, I_lt_f, I_eq_t, I_eq_f, I_inb', I_ix', Int.toNat_natCast, decide_true, decide_false, Bool.not_false, Bool.not_true, if_true, if_false, wi_eq, wi_eq', wi_ne, wi_row, wi_2, N0, N1, N2, N3, N4, N5, N6, N7, N8, N9, N10, N11, N12, N13, N14, N15, N16, N17, N18, N19, N20, N21, N22, N23, N24, N25, N26, N27, N28, N29, N30, N31, N32, N33, N34, N35, N36, N37, N38, N39, N40, N41, N42, N43, N45, N48, N57, N59, N88, N89, N97, N99, N120, N121, N122, N179, N200, N255, N300, N400, N880, N900, N999, N1019, N50000000, N100000000, N1000000000, N2147483647, N2147483648, p1, p5, isb_1]
      · unfold f_X7_readFeeOf_33 f_X7_readFeeOf_51
        simp (disch := omega) only [gd_t, bd_s, nm_W, nm_I, I_add, I_sub, I_mul, I_neg, I_le_t, I_le_f, I_lt_t, I_lt_f, I_eq_t, I_eq_f, I_inb', I_ix', Int.toNat_natCast, decide_true, decide_false, Bool.not_false, Bool.not_true, if_true, if_false, wi_eq, wi_eq', wi_ne, wi_row, wi_2, N0, N1, N2, N3, N4, N5, N6, N7, N8, N9, N10, N11, N12, N13, N14, N15, N16, N17, N18, N19, N20, N21, N22, N23, N24, N25, N26, N27, N28, N29, N30, N31, N32, N33, N34, N35, N36, N37, N38, N39, N40, N41, N42, N43, N45, N48, N57, N59, N88, N89, N97, N99, N120, N121, N122, N179, N200, N255, N300, N400, N880, N900, N999, N1019, N50000000, N100000000, N1000000000, N2147483647, N2147483648, p2]
theorem sign_ok {N pl : Nat} {bt : Nat → Int} {σ τ : Wd} {k n c : Int} {l : List Int} (hT : TK σ τ N bt pl k l n) (hc : c = 59 ∨ c = 45) : f_X7_isSign (I c) τ = some (I (bn (decide ((k = 3 ∧ c = 59) ∨ (k = 4 ∧ c = 45)))), τ) := by
  obtain ⟨nx, -, -, -, hq⟩ := hT
  unfold f_X7_isSign f_X7_isSign_20 f_X7_isSign_21
  rcases hq with ⟨q, h⟩ | ⟨q, h, -⟩ | ⟨q, h, -⟩ | ⟨q, h, h2⟩ | ⟨q, h, h2⟩ | ⟨q, h⟩
  · rw [decide_eq_false (by omega), bn_f]
    simp (disch := omega) only [gd_t, bd_s, nm_W, nm_I, I_add, I_sub, I_mul, I_neg, I_le_t, I_le_f, I_lt_t, I_lt_f, I_eq_t, I_eq_f, I_inb', I_ix', Int.toNat_natCast, decide_true, decide_false, Bool.not_false, Bool.not_true, if_true, if_false, wi_eq, wi_eq', wi_ne, wi_row, wi_2, N0, N1, N2, N3, N4, N5, N6, N7, N8, N9, N10, N11, N12, N13, N14, N15, N16, N17, N18, N19, N20, N21, N22, N23, N24, N25, N26, N27, N28, N29, N30, N31, N32, N33, N34, N35, N36, N37, N38, N39, N40, N41, N42, N43, N45, N48, N57, N59, N88, N89, N97, N99, N120, N121, N122, N179, N200, N255, N300, N400, N880, N900, N999, N1019, N50000000, N100000000, N1000000000, N2147483647, N2147483648, h, isb_0]
  · rw [decide_eq_false (by omega), bn_f]
    simp (disch := omega) only [gd_t, bd_s, nm_W, nm_I, I_add, I_sub, I_mul, I_neg, I_le_t, I_le_f, I_lt_t, I_lt_f, I_eq_t, I_eq_f, I_inb', I_ix', Int.toNat_natCast, decide_true, decide_false, Bool.not_false, Bool.not_true, if_true, if_false, wi_eq, wi_eq', wi_ne, wi_row, wi_2, N0, N1, N2, N3, N4, N5, N6, N7, N8, N9, N10, N11, N12, N13, N14, N15, N16, N17, N18, N19, N20, N21, N22, N23, N24, N25, N26, N27, N28, N29, N30, N31, N32, N33, N34, N35, N36, N37, N38, N39, N40, N41, N42, N43, N45, N48, N57, N59, N88, N89, N97, N99, N120, N121, N122, N179, N200, N255, N300, N400, N880, N900, N999, N1019, N50000000, N100000000, N1000000000, N2147483647, N2147483648, h, isb_0]
  · rw [decide_eq_false (by omega), bn_f]
    simp (disch := omega) only [gd_t, bd_s, nm_W, nm_I, I_add, I_sub, I_mul, I_neg, I_le_t, I_le_f, I_lt_t, I_lt_f, I_eq_t, I_eq_f, I_inb', I_ix', Int.toNat_natCast, decide_true, decide_false, Bool.not_false, Bool.not_true, if_true, if_false, wi_eq, wi_eq', wi_ne, wi_row, wi_2, N0, N1, N2, N3, N4, N5, N6, N7, N8, N9, N10, N11, N12, N13, N14, N15, N16, N17, N18, N19, N20, N21, N22, N23, N24, N25, N26, N27, N28, N29, N30, N31, N32, N33, N34, N35, N36, N37, N38, N39, N40, N41, N42, N43, N45, N48, N57, N59, N88, N89, N97, N99, N120, N121, N122, N179, N200, N255, N300, N400, N880, N900, N999, N1019, N50000000, N100000000, N1000000000, N2147483647, N2147483648, h, isb_0]
  · rcases hc with hc | hc
    · rw [decide_eq_true (by omega), bn_t]
      simp (disch := omega) only [gd_t, bd_s, nm_W, nm_I, I_add, I_sub, I_mul, I_neg, I_le_t, I_le_f, I_lt_t, I_lt_f, I_eq_t, I_eq_f, I_inb', I_ix', Int.toNat_natCast, decide_true, decide_false, Bool.not_false, Bool.not_true, if_true, if_false, wi_eq, wi_eq', wi_ne, wi_row, wi_2, N0, N1, N2, N3, N4, N5, N6, N7, N8, N9, N10, N11, N12, N13, N14, N15, N16, N17, N18, N19, N20, N21, N22, N23, N24, N25, N26, N27, N28, N29, N30, N31, N32, N33, N34, N35, N36, N37, N38, N39, N40, N41, N42, N43, N45, N48, N57, N59, N88, N89, N97, N99, N120, N121, N122, N179, N200, N255, N300, N400, N880, N900, N999, N1019, N50000000, N100000000, N1000000000, N2147483647, N2147483648, h, h2, isb_1]
    · rw [decide_eq_false (by omega), bn_f]
      simp (disch := omega) only [gd_t, bd_s, nm_W, nm_I, I_add, I_sub, I_mul, I_neg, I_le_t, I_le_f, I_lt_t, I_lt_f, I_eq_t, I_eq_f, I_inb', I_ix', Int.toNat_natCast, decide_true, decide_false, Bool.not_false, Bool.not_true, if_true, if_false, wi_eq, wi_eq', wi_ne, wi_row, wi_2, N0, N1, N2, N3, N4, N5, N6, N7, N8, N9, N10, N11, N12, N13, N14, N15, N16, N17, N18, N19, N20, N21, N22, N23, N24, N25, N26, N27, N28, N29, N30, N31, N32, N33, N34, N35, N36, N37, N38, N39, N40, N41, N42, N43, N45, N48, N57, N59, N88, N89, N97, N99, N120, N121, N122, N179, N200, N255, N300, N400, N880, N900, N999, N1019, N50000000, N100000000, N1000000000, N2147483647, N2147483648, h, h2, isb_0]
  · rcases hc with hc | hc
    · rw [decide_eq_false (by omega), bn_f]
      simp (disch := omega) only [gd_t, bd_s, nm_W, nm_I, I_add, I_sub, I_mul, I_neg, I_le_t, I_le_f, I_lt_t, I_lt_f, I_eq_t, I_eq_f, I_inb', I_ix', Int.toNat_natCast, decide_true, decide_false, Bool.not_false, Bool.not_true, if_true, if_false, wi_eq, wi_eq', wi_ne, wi_row, wi_2, N0, N1, N2, N3, N4, N5, N6, N7, N8, N9, N10, N11, N12, N13, N14, N15, N16, N17, N18, N19, N20, N21, N22, N23, N24, N25, N26, N27, N28, N29, N30, N31, N32, N33, N34, N35, N36, N37, N38, N39, N40, N41, N42, N43, N45, N48, N57, N59, N88, N89, N97, N99, N120, N121, N122, N179, N200, N255, N300, N400, N880, N900, N999, N1019, N50000000, N100000000, N1000000000, N2147483647, N2147483648, h, h2, isb_0]
    · rw [decide_eq_true (by omega), bn_t]
      simp (disch := omega) only [gd_t, bd_s, nm_W, nm_I, I_add, I_sub, I_mul, I_neg, I_le_t, I_le_f, I_lt_t, I_lt_f, I_eq_t, I_eq_f, I_inb', I_ix', Int.toNat_natCast, decide_true, decide_false, Bool.not_false, Bool.not_true, if_true, if_false, wi_eq, wi_eq', wi_ne, wi_row, wi_2, N0, N1, N2, N3, N4, N5, N6, N7, N8, N9, N10, N11, N12, N13, N14, N15, N16, N17, N18, N19, N20, N21, N22, N23, N24, N25, N26, N27, N28, N29, N30, N31, N32, N33, N34, N35, N36, N37, N38, N39, N40, N41, N42, N43, N45, N48, N57, N59, N88, N89, N97, N99, N120, N121, N122, N179, N200, N255, N300, N400, N880, N900, N999, N1019, N50000000, N100000000, N1000000000, N2147483647, N2147483648, h, h2, isb_1]
  · rw [decide_eq_false (by omega), bn_f]
    simp (disch := omega) only [gd_t, bd_s, nm_W, nm_I, I_add, I_sub, I_mul, I_neg, I_le_t, I_le_f, I_lt_t, I_lt_f, I_eq_t, I_eq_f, I_inb', I_ix', Int.toNat_natCast, decide_true, decide_false, Bool.not_false, Bool.not_true, if_true, if_false, wi_eq, wi_eq', wi_ne, wi_row, wi_2, N0, N1, N2, N3, N4, N5, N6, N7, N8, N9, N10, N11, N12, N13, N14, N15, N16, N17, N18, N19, N20, N21, N22, N23, N24, N25, N26, N27, N28, N29, N30, N31, N32, N33, N34, N35, N36, N37, N38, N39, N40, N41, N42, N43, N45, N48, N57, N59, N88, N89, N97, N99, N120, N121, N122, N179, N200, N255, N300, N400, N880, N900, N999, N1019, N50000000, N100000000, N1000000000, N2147483647, N2147483648, h, isb_0]
theorem fee_ok {N pl : Nat} {bt : Nat → Int} {σ τ : Wd} {k n : Int} {l : List Int} (hB : BY σ τ N bt) (hT : TK σ τ N bt pl k l n) :
    (∃ (σ' τ' : Wd) (y : Int32), f_X5_takesFee σ = some (I 0, σ') ∧ f_X7_readFeeOf τ = some (y, τ') ∧ BD σ' τ' ∧ CG σ σ' ∧ RX τ τ')
    ∨ (∃ (σ' τ' : Wd) (v : Int) (pl' : Nat) (k' : Int) (l' : List Int) (n' : Int), f_X5_takesFee σ = some (I 1, σ') ∧ f_X7_readFeeOf τ = some (I v, τ') ∧ -9 ≤ v ∧ v ≤ 9 ∧ σ'.1 1 10 = I v ∧ TK σ' τ' N bt pl' k' l' n' ∧ pl ≤ pl' ∧ CG σ σ' ∧ RX τ τ') := by
  rw [rFee_as]
  rcases word1_ok (w := 10) (by decide) hB hT with ⟨σ1, τ1, q1, q2, q3, q4, q5⟩ | ⟨σ1, τ1, pl1, k1, l1, n1, q1, q2, q3, q4, q5, q6⟩
  · obtain ⟨f, pf, -, -, hF⟩ := id q3
    have e3 := ft_sign (c := I 45) hF
    have e4 := ft_whole (lo := I 0) (hi := I 9) hF
    refine Or.inl ⟨σ1, τ1, I 0, ?_, ?_, q3, q4, q5⟩
    · unfold f_X5_takesFee
      simp (disch := omega) only [gd_t, bd_s, nm_W, nm_I, I_add, I_sub, I_mul, I_neg, I_le_t, I_le_f, I_lt_t, I_lt_f, I_eq_t, I_eq_f, I_inb', I_ix', Int.toNat_natCast, decide_true, decide_false, Bool.not_false, Bool.not_true, if_true, if_false, wi_eq, wi_eq', wi_ne, wi_row, wi_2, N0, N1, N2, N3, N4, N5, N6, N7, N8, N9, N10, N11, N12, N13, N14, N15, N16, N17, N18, N19, N20, N21, N22, N23, N24, N25, N26, N27, N28, N29, N30, N31, N32, N33, N34, N35, N36, N37, N38, N39, N40, N41, N42, N43, N45, N48, N57, N59, N88, N89, N97, N99, N120, N121, N122, N179, N200, N255, N300, N400, N880, N900, N999, N1019, N50000000, N100000000, N1000000000, N2147483647, N2147483648, q1, isb_0]
    · rw [q2, bd_s]
      unfold f_X7_readFeeOf_33 f_X7_readFeeOf_51
      simp (disch := omega) only [gd_t, bd_s, nm_W, nm_I, I_add, I_sub, I_mul, I_neg, I_le_t, I_le_f, I_lt_t, I_lt_f, I_eq_t, I_eq_f, I_inb', I_ix', Int.toNat_natCast, decide_true, decide_false, Bool.not_false, Bool.not_true, if_true, if_false, wi_eq, wi_eq', wi_ne, wi_row, wi_2, N0, N1, N2, N3, N4, N5, N6, N7, N8, N9, N10, N11, N12, N13, N14, N15, N16, N17, N18, N19, N20, N21, N22, N23, N24, N25, N26, N27, N28, N29, N30, N31, N32, N33, N34, N35, N36, N37, N38, N39, N40, N41, N42, N43, N45, N48, N57, N59, N88, N89, N97, N99, N120, N121, N122, N179, N200, N255, N300, N400, N880, N900, N999, N1019, N50000000, N100000000, N1000000000, N2147483647, N2147483648, e3, e4]
  · have hB1 := BY_f hB q5 q6
    have k7 := (TK_33 q3).2
    have kb := TK_k q3
    have sg := sign_ok (c := 45) q3 (Or.inr rfl)
    rw [q2, bd_s]
    by_cases c : k1 = 4
    · rw [decide_eq_true (Or.inr ⟨c, rfl⟩), bn_t] at sg
      obtain ⟨σ2, τ2, pl2, k2, l2, n2, r1, r2, r3, r4, r5, r6⟩ := step_ok hB1 q3 (by omega)
      have s1 : f_X5_takesFee σ = f_X5_takesFee_33 (I 1) σ2 := by
        unfold f_X5_takesFee f_X5_takesFee_24
        simp (disch := omega) only [gd_t, bd_s, nm_W, nm_I, I_add, I_sub, I_mul, I_neg, I_le_t, I_le_f, I_lt_t, I_lt_f, I_eq_t, I_eq_f, I_inb', I_ix', Int.toNat_natCast, decide_true, decide_false, Bool.not_false, Bool.not_true, if_true, if_false, wi_eq, wi_eq', wi_ne, wi_row, wi_2, N0, N1, N2, N3, N4, N5, N6, N7, N8, N9, N10, N11, N12, N13, N14, N15, N16, N17, N18, N19, N20, N21, N22, N23, N24, N25, N26, N27, N28, N29, N30, N31, N32, N33, N34, N35, N36, N37, N38, N39, N40, N41, N42, N43, N45, N48, N57, N59, N88, N89, N97, N99, N120, N121, N122, N179, N200, N255, N300, N400, N880, N900, N999, N1019, N50000000, N100000000, N1000000000, N2147483647, N2147483648, q1, k7, r1]
      have s2 : (bd (f_X7_isSign (45 : Int32) τ1) fun r2 σ3 => if r2 = 0 then (f_X7_readFeeOf_33 r2 σ3) else (bd (f_X7_next σ3) fun _ σ4 => (f_X7_readFeeOf_33 r2 σ4))) = f_X7_readFeeOf_33 (I 1) τ2 := by
        simp (disch := omega) only [gd_t, bd_s, nm_W, nm_I, I_add, I_sub, I_mul, I_neg, I_le_t, I_le_f, I_lt_t, I_lt_f, I_eq_t, I_eq_f, I_inb', I_ix', Int.toNat_natCast, decide_true, decide_false, Bool.not_false, Bool.not_true, if_true, if_false, wi_eq, wi_eq', wi_ne, wi_row, wi_2, N0, N1, N2, N3, N4, N5, N6, N7, N8, N9, N10, N11, N12, N13, N14, N15, N16, N17, N18, N19, N20, N21, N22, N23, N24, N25, N26, N27, N28, N29, N30, N31, N32, N33, N34, N35, N36, N37, N38, N39, N40, N41, N42, N43, N45, N48, N57, N59, N88, N89, N97, N99, N120, N121, N122, N179, N200, N255, N300, N400, N880, N900, N999, N1019, N50000000, N100000000, N1000000000, N2147483647, N2147483648, sg, r2]
      rw [s1, s2]
      rcases feeN_ok (x := 1) (Or.inr rfl) (BY_f hB1 (CFG r5) r6) r3 with ⟨σ', τ', y, p1, p2, p3, p4, p5⟩ | ⟨σ', τ', v, pl', k', l', n', p1, p2, p3, p4, p5, p6, p7, p8, p9⟩
      · exact Or.inl ⟨σ', τ', y, p1, p2, p3, CGt q5 (CGt (CFG r5) p4), RXt q6 (RXt r6 p5)⟩
      · exact Or.inr ⟨σ', τ', v, pl', k', l', n', p1, p2, p3, p4, p5, p6, by omega, CGt q5 (CGt (CFG r5) p8), RXt q6 (RXt r6 p9)⟩
    · rw [decide_eq_false (by omega), bn_f] at sg
      have s1 : f_X5_takesFee σ = f_X5_takesFee_33 (I 0) σ1 := by
        unfold f_X5_takesFee f_X5_takesFee_24
        simp (disch := omega) only [gd_t, bd_s, nm_W, nm_I, I_add, I_sub, I_mul, I_neg, I_le_t, I_le_f, I_lt_t, I_lt_f, I_eq_t, I_eq_f, I_inb', I_ix', Int.toNat_natCast, decide_true, decide_false, Bool.not_false, Bool.not_true, if_true, if_false, wi_eq, wi_eq', wi_ne, wi_row, wi_2, N0, N1, N2, N3, N4, N5, N6, N7, N8, N9, N10, N11, N12, N13, N14, N15, N16, N17, N18, N19, N20, N21, N22, N23, N24, N25, N26, N27, N28, N29, N30, N31, N32, N33, N34, N35, N36, N37, N38, N39, N40, N41, N42, N43, N45, N48, N57, N59, N88, N89, N97, N99, N120, N121, N122, N179, N200, N255, N300, N400, N880, N900, N999, N1019, N50000000, N100000000, N1000000000, N2147483647, N2147483648, q1, k7]
      have s2 : (bd (f_X7_isSign (45 : Int32) τ1) fun r2 σ3 => if r2 = 0 then (f_X7_readFeeOf_33 r2 σ3) else (bd (f_X7_next σ3) fun _ σ4 => (f_X7_readFeeOf_33 r2 σ4))) = f_X7_readFeeOf_33 (I 0) τ1 := by
        simp (disch := omega) only [gd_t, bd_s, nm_W, nm_I, I_add, I_sub, I_mul, I_neg, I_le_t, I_le_f, I_lt_t, I_lt_f, I_eq_t, I_eq_f, I_inb', I_ix', Int.toNat_natCast, decide_true, decide_false, Bool.not_false, Bool.not_true, if_true, if_false, wi_eq, wi_eq', wi_ne, wi_row, wi_2, N0, N1, N2, N3, N4, N5, N6, N7, N8, N9, N10, N11, N12, N13, N14, N15, N16, N17, N18, N19, N20, N21, N22, N23, N24, N25, N26, N27, N28, N29, N30, N31, N32, N33, N34, N35, N36, N37, N38, N39, N40, N41, N42, N43, N45, N48, N57, N59, N88, N89, N97, N99, N120, N121, N122, N179, N200, N255, N300, N400, N880, N900, N999, N1019, N50000000, N100000000, N1000000000, N2147483647, N2147483648, sg]
      rw [s1, s2]
      rcases feeN_ok (x := 0) (Or.inl rfl) hB1 q3 with ⟨σ', τ', y, p1, p2, p3, p4, p5⟩ | ⟨σ', τ', v, pl', k', l', n', p1, p2, p3, p4, p5, p6, p7, p8, p9⟩
      · exact Or.inl ⟨σ', τ', y, p1, p2, p3, CGt q5 p4, RXt q6 p5⟩
      · exact Or.inr ⟨σ', τ', v, pl', k', l', n', p1, p2, p3, p4, p5, p6, by omega, CGt q5 p8, RXt q6 p9⟩
/-- the start of a line that isn't the order's; full: whether there is no room -/
theorem opens_ok {m N pl : Nat} {bt : Nat → Int} {σ τ : Wd} {k n W x : Int} {l : List Int} (hm : 10 < m) (hx : x = 0 ∨ x = 1) (hB : BY σ τ N bt) (hT : TK σ τ N bt pl k l n) (hk : k = 1) (c0 : σ.1 m 0 = I W) (e16 : τ.1 102 16 = I W) (hW : 0 ≤ W ∧ W ≤ 120) :
    (∃ (σ' τ' : Wd), f_X5_opens m (I (1 - x)) σ = some (I 0, σ') ∧ f_X7_begins (I x) τ = some (0, τ') ∧ BD σ' τ' ∧ CG σ σ' ∧ RX τ τ')
    ∨ (∃ (σ' τ' : Wd) (pl' : Nat) (k' : Int) (l' : List Int) (n' : Int), x = 0 ∧ W ≠ 0 ∧ f_X5_opens m (I (1 - x)) σ = some (I 1, σ') ∧ f_X7_begins (I x) τ = some (0, τ') ∧ TK σ' τ' N bt pl' k' l' n' ∧ pl ≤ pl' ∧ CG σ σ' ∧ RX τ τ') := by
  by_cases cx : x = 1
  · obtain ⟨σ', τ', q1, q2, q3, q4, q5⟩ := bad_ok (c := 5) hT (by omega)
    obtain ⟨f, pf, -, -, hF⟩ := id q3
    have eb : f_X7_begins (I x) τ = f_X7_begins_9 τ' := by
      unfold f_X7_begins
      simp (disch := omega) only [gd_t, bd_s, nm_W, nm_I, I_add, I_sub, I_mul, I_neg, I_le_t, I_le_f, I_lt_t, I_lt_f, I_eq_t, I_eq_f, I_inb', I_ix', Int.toNat_natCast, decide_true, decide_false, Bool.not_false, Bool.not_true, if_true, if_false, wi_eq, wi_eq', wi_ne, wi_row, wi_2, N0, N1, N2, N3, N4, N5, N6, N7, N8, N9, N10, N11, N12, N13, N14, N15, N16, N17, N18, N19, N20, N21, N22, N23, N24, N25, N26, N27, N28, N29, N30, N31, N32, N33, N34, N35, N36, N37, N38, N39, N40, N41, N42, N43, N45, N48, N57, N59, N88, N89, N97, N99, N120, N121, N122, N179, N200, N255, N300, N400, N880, N900, N999, N1019, N50000000, N100000000, N1000000000, N2147483647, N2147483648, q2]
    have e9 : f_X7_begins_9 τ' = some (0, τ') := by
      have q := ft_begins (c := 0) hF
      unfold f_X7_begins at q
      rw [if_pos rfl] at q
      exact q
    refine Or.inl ⟨σ', τ', ?_, by rw [eb, e9], q3, q4, q5⟩
    unfold f_X5_opens
    simp (disch := omega) only [gd_t, bd_s, nm_W, nm_I, I_add, I_sub, I_mul, I_neg, I_le_t, I_le_f, I_lt_t, I_lt_f, I_eq_t, I_eq_f, I_inb', I_ix', Int.toNat_natCast, decide_true, decide_false, Bool.not_false, Bool.not_true, if_true, if_false, wi_eq, wi_eq', wi_ne, wi_row, wi_2, N0, N1, N2, N3, N4, N5, N6, N7, N8, N9, N10, N11, N12, N13, N14, N15, N16, N17, N18, N19, N20, N21, N22, N23, N24, N25, N26, N27, N28, N29, N30, N31, N32, N33, N34, N35, N36, N37, N38, N39, N40, N41, N42, N43, N45, N48, N57, N59, N88, N89, N97, N99, N120, N121, N122, N179, N200, N255, N300, N400, N880, N900, N999, N1019, N50000000, N100000000, N1000000000, N2147483647, N2147483648, q1, isb_0]
  · have x0 : x = 0 := by omega
    subst x0
    by_cases cw : W = 0
    · obtain ⟨σ', τ', q1, q2, q3, q4, q5⟩ := bad_ok (c := 6) hT (by omega)
      obtain ⟨f, pf, -, -, hF⟩ := id q3
      have en := ft_next hF
      refine Or.inl ⟨σ', τ', ?_, ?_, q3, q4, q5⟩
      · unfold f_X5_opens
        simp (disch := omega) only [gd_t, bd_s, nm_W, nm_I, I_add, I_sub, I_mul, I_neg, I_le_t, I_le_f, I_lt_t, I_lt_f, I_eq_t, I_eq_f, I_inb', I_ix', Int.toNat_natCast, decide_true, decide_false, Bool.not_false, Bool.not_true, if_true, if_false, wi_eq, wi_eq', wi_ne, wi_row, wi_2, N0, N1, N2, N3, N4, N5, N6, N7, N8, N9, N10, N11, N12, N13, N14, N15, N16, N17, N18, N19, N20, N21, N22, N23, N24, N25, N26, N27, N28, N29, N30, N31, N32, N33, N34, N35, N36, N37, N38, N39, N40, N41, N42, N43, N45, N48, N57, N59, N88, N89, N97, N99, N120, N121, N122, N179, N200, N255, N300, N400, N880, N900, N999, N1019, N50000000, N100000000, N1000000000, N2147483647, N2147483648, c0, q1, isb_0]
      · unfold f_X7_begins f_X7_begins_9 f_X7_begins_22
        simp (disch := omega) only [gd_t, bd_s, nm_W, nm_I, I_add, I_sub, I_mul, I_neg, I_le_t, I_le_f, I_lt_t, I_lt_f, I_eq_t, I_eq_f, I_inb', I_ix', Int.toNat_natCast, decide_true, decide_false, Bool.not_false, Bool.not_true, if_true, if_false, wi_eq, wi_eq', wi_ne, wi_row, wi_2, N0, N1, N2, N3, N4, N5, N6, N7, N8, N9, N10, N11, N12, N13, N14, N15, N16, N17, N18, N19, N20, N21, N22, N23, N24, N25, N26, N27, N28, N29, N30, N31, N32, N33, N34, N35, N36, N37, N38, N39, N40, N41, N42, N43, N45, N48, N57, N59, N88, N89, N97, N99, N120, N121, N122, N179, N200, N255, N300, N400, N880, N900, N999, N1019, N50000000, N100000000, N1000000000, N2147483647, N2147483648, e16, q2, en]
    · obtain ⟨σ', τ', pl', k', l', n', q1, q2, q3, q4, q5, q6⟩ := step_ok hB hT (by omega)
      refine Or.inr ⟨σ', τ', pl', k', l', n', rfl, cw, ?_, ?_, q3, q4.1, CFG q5, q6⟩
      · unfold f_X5_opens
        simp (disch := omega) only [gd_t, bd_s, nm_W, nm_I, I_add, I_sub, I_mul, I_neg, I_le_t, I_le_f, I_lt_t, I_lt_f, I_eq_t, I_eq_f, I_inb', I_ix', Int.toNat_natCast, decide_true, decide_false, Bool.not_false, Bool.not_true, if_true, if_false, wi_eq, wi_eq', wi_ne, wi_row, wi_2, N0, N1, N2, N3, N4, N5, N6, N7, N8, N9, N10, N11, N12, N13, N14, N15, N16, N17, N18, N19, N20, N21, N22, N23, N24, N25, N26, N27, N28, N29, N30, N31, N32, N33, N34, N35, N36, N37, N38, N39, N40, N41, N42, N43, N45, N48, N57, N59, N88, N89, N97, N99, N120, N121, N122, N179, N200, N255, N300, N400, N880, N900, N999, N1019, N50000000, N100000000, N1000000000, N2147483647, N2147483648, c0, q1, isb_1]
      · unfold f_X7_begins f_X7_begins_9 f_X7_begins_22
        simp (disch := omega) only [gd_t, bd_s, nm_W, nm_I, I_add, I_sub, I_mul, I_neg, I_le_t, I_le_f, I_lt_t, I_lt_f, I_eq_t, I_eq_f, I_inb', I_ix', Int.toNat_natCast, decide_true, decide_false, Bool.not_false, Bool.not_true, if_true, if_false, wi_eq, wi_eq', wi_ne, wi_row, wi_2, N0, N1, N2, N3, N4, N5, N6, N7, N8, N9, N10, N11, N12, N13, N14, N15, N16, N17, N18, N19, N20, N21, N22, N23, N24, N25, N26, N27, N28, N29, N30, N31, N32, N33, N34, N35, N36, N37, N38, N39, N40, N41, N42, N43, N45, N48, N57, N59, N88, N89, N97, N99, N120, N121, N122, N179, N200, N255, N300, N400, N880, N900, N999, N1019, N50000000, N100000000, N1000000000, N2147483647, N2147483648, e16, q2]
