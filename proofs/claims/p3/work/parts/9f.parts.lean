/-! PURE: the text: word and number, name, kind, fee -/
theorem word1_ok {N pl w : Nat} {bt : Nat → Int} {σ τ : Wd} {k n : Int} {l : List Int} (hw : w < 13) (hB : BY σ τ N bt) (hT : TK σ τ N bt pl k l n) :
    (∃ (σ' τ' : Wd), f_X5_takesWord w σ = some (I 0, σ') ∧ (bd (f_X7_isWord w τ) fun r1 σ2 => if r1 = 0 then (bd (f_X7_flaw (1 : Int32) σ2) fun _ σ3 => (f_X7_next σ3)) else (f_X7_next σ2)) = some (0, τ') ∧ BD σ' τ' ∧ CG σ σ' ∧ RX τ τ')
    ∨ (∃ (σ' τ' : Wd) (pl' : Nat) (k' : Int) (l' : List Int) (n' : Int), f_X5_takesWord w σ = some (I 1, σ') ∧ (bd (f_X7_isWord w τ) fun r1 σ2 => if r1 = 0 then (bd (f_X7_flaw (1 : Int32) σ2) fun _ σ3 => (f_X7_next σ3)) else (f_X7_next σ2)) = some (0, τ') ∧ TK σ' τ' N bt pl' k' l' n' ∧ pl ≤ pl' ∧ CG σ σ' ∧ RX τ τ') := by
  obtain ⟨e1, e2⟩ := isw_ok hw hB hT
  by_cases c : k = 1 ∧ l = lw w
  · refine Or.inr ?_
    rw [decide_eq_true c, bn_t] at e1 e2
    obtain ⟨σ', τ', pl', k', l', n', q1, q2, q3, q4, q5, q6⟩ := step_ok hB hT (by omega)
    refine ⟨σ', τ', pl', k', l', n', ?_, ?_, q3, q4.1, CFG q5, q6⟩
    · unfold f_X5_takesWord
      simp (disch := omega) only [gd_t, bd_s, nm_W, nm_I, I_add, I_sub, I_mul, I_neg, I_le_t, I_le_f, I_lt_t, I_lt_f, I_eq_t, I_eq_f, I_inb', I_ix', Int.toNat_natCast, decide_true, decide_false, Bool.not_false, Bool.not_true, if_true, if_false, wi_eq, wi_eq', wi_ne, wi_row, wi_2, N0, N1, N2, N3, N4, N5, N6, N7, N8, N9, N10, N11, N12, N13, N14, N15, N16, N17, N18, N19, N20, N21, N22, N23, N24, N25, N26, N27, N28, N29, N30, N31, N32, N33, N34, N35, N36, N37, N38, N39, N40, N41, N42, N43, N45, N48, N57, N59, N88, N89, N97, N99, N120, N121, N122, N179, N200, N255, N300, N400, N880, N900, N999, N1019, N50000000, N100000000, N1000000000, N2147483647, N2147483648, e1, q1, isb_1]
    · simp (disch := omega) only [gd_t, bd_s, nm_W, nm_I, I_add, I_sub, I_mul, I_neg, I_le_t, I_le_f, I_lt_t, I_lt_f, I_eq_t, I_eq_f, I_inb', I_ix', Int.toNat_natCast, decide_true, decide_false, Bool.not_false, Bool.not_true, if_true, if_false, wi_eq, wi_eq', wi_ne, wi_row, wi_2, N0, N1, N2, N3, N4, N5, N6, N7, N8, N9, N10, N11, N12, N13, N14, N15, N16, N17, N18, N19, N20, N21, N22, N23, N24, N25, N26, N27, N28, N29, N30, N31, N32, N33, N34, N35, N36, N37, N38, N39, N40, N41, N42, N43, N45, N48, N57, N59, N88, N89, N97, N99, N120, N121, N122, N179, N200, N255, N300, N400, N880, N900, N999, N1019, N50000000, N100000000, N1000000000, N2147483647, N2147483648, e2, q2]
  · refine Or.inl ?_
    rw [decide_eq_false c, bn_f] at e1 e2
    obtain ⟨σ', τ', q1, q2, q3, q4, q5⟩ := bad_ok (c := 1) hT (by omega)
    obtain ⟨f, pf, -, -, hF⟩ := id q3
    have en := ft_next hF
    refine ⟨σ', τ', ?_, ?_, q3, q4, q5⟩
    · unfold f_X5_takesWord
      simp (disch := omega) only [gd_t, bd_s, nm_W, nm_I, I_add, I_sub, I_mul, I_neg, I_le_t, I_le_f, I_lt_t, I_lt_f, I_eq_t, I_eq_f, I_inb', I_ix', Int.toNat_natCast, decide_true, decide_false, Bool.not_false, Bool.not_true, if_true, if_false, wi_eq, wi_eq', wi_ne, wi_row, wi_2, N0, N1, N2, N3, N4, N5, N6, N7, N8, N9, N10, N11, N12, N13, N14, N15, N16, N17, N18, N19, N20, N21, N22, N23, N24, N25, N26, N27, N28, N29, N30, N31, N32, N33, N34, N35, N36, N37, N38, N39, N40, N41, N42, N43, N45, N48, N57, N59, N88, N89, N97, N99, N120, N121, N122, N179, N200, N255, N300, N400, N880, N900, N999, N1019, N50000000, N100000000, N1000000000, N2147483647, N2147483648, e1, q1, isb_0]
    · simp (disch := omega) only [gd_t, bd_s, nm_W, nm_I, I_add, I_sub, I_mul, I_neg, I_le_t, I_le_f, I_lt_t, I_lt_f, I_eq_t, I_eq_f, I_inb', I_ix', Int.toNat_natCast, decide_true, decide_false, Bool.not_false, Bool.not_true, if_true, if_false, wi_eq, wi_eq', wi_ne, wi_row, wi_2, N0, N1, N2, N3, N4, N5, N6, N7, N8, N9, N10, N11, N12, N13, N14, N15, N16, N17, N18, N19, N20, N21, N22, N23, N24, N25, N26, N27, N28, N29, N30, N31, N32, N33, N34, N35, N36, N37, N38, N39, N40, N41, N42, N43, N45, N48, N57, N59, N88, N89, N97, N99, N120, N121, N122, N179, N200, N255, N300, N400, N880, N900, N999, N1019, N50000000, N100000000, N1000000000, N2147483647, N2147483648, e2, q2, en]
theorem bd_as (a : Option (Int32 × Wd)) (f g : Int32 → Wd → Option (Int32 × Wd)) : bd (bd a f) g = bd a (fun r s => bd (f r s) g) := by
  cases a with
  | none => rfl
  | some p => rfl
theorem rPart_as {w : Nat} {lo hi : Int32} {τ : Wd} : f_X7_readPart w lo hi τ = bd (bd (f_X7_isWord w τ) fun r1 σ2 => if r1 = 0 then (bd (f_X7_flaw (1 : Int32) σ2) fun _ σ3 => (f_X7_next σ3)) else (f_X7_next σ2)) (fun _ σ1 => f_X7_readWhole lo hi σ1) := by
  unfold f_X7_readPart f_X7_readPart_13
  rw [bd_as]
  cases f_X7_isWord w τ with
  | none => rfl
  | some p =>
    obtain ⟨r, s⟩ := p
    rw [bd_s, bd_s]
    by_cases c : r = 0
    · rw [if_pos c, if_pos c, bd_as]
      cases f_X7_flaw 1 s with
      | none => rfl
      | some p =>
        obtain ⟨r, s⟩ := p
        rw [bd_s, bd_s]
        cases f_X7_next s with
        | none => rfl
        | some p =>
          obtain ⟨r, s⟩ := p
          rw [bd_s, bd_s]
          cases f_X7_readWhole lo hi s with
          | none => rfl
          | some p => rfl
    · rw [if_neg c, if_neg c]
      cases f_X7_next s with
      | none => rfl
      | some p =>
        obtain ⟨r, s⟩ := p
        rw [bd_s, bd_s]
        cases f_X7_readWhole lo hi s with
        | none => rfl
        | some p => rfl
/-- a word and a number: K1 goes on behind them, K0 if it isn't so -/
theorem part_ok {N pl w : Nat} {bt : Nat → Int} {σ τ : Wd} {k n lo hi : Int} {l : List Int} {K0 K1 : Wd → Option (Int32 × Wd)} (h0 : ∀ s, K0 s = some (I 0, s)) (hw : w < 13) (hB : BY σ τ N bt) (hT : TK σ τ N bt pl k l n) (hl : -1000 ≤ lo ∧ lo ≤ 1000) (hh : -1000 ≤ hi ∧ hi ≤ 1000) :
    (∃ (σ' τ' : Wd), (bd (f_X5_takesWord w σ) fun r1 σ2 => if r1 = 0 then K0 σ2 else (bd (f_X5_takesWhole (I lo) (I hi) σ2) fun r3 σ4 => if r3 = 0 then K0 σ4 else K1 σ4)) = some (I 0, σ') ∧ f_X7_readPart w (I lo) (I hi) τ = some (I lo, τ') ∧ BD σ' τ' ∧ CG σ σ' ∧ RX τ τ')
    ∨ (∃ (σ' τ' : Wd) (v : Int) (pl' : Nat) (k' : Int) (l' : List Int) (n' : Int), (bd (f_X5_takesWord w σ) fun r1 σ2 => if r1 = 0 then K0 σ2 else (bd (f_X5_takesWhole (I lo) (I hi) σ2) fun r3 σ4 => if r3 = 0 then K0 σ4 else K1 σ4)) = K1 σ' ∧ f_X7_readPart w (I lo) (I hi) τ = some (I v, τ') ∧ lo ≤ v ∧ v ≤ hi ∧ σ'.1 1 10 = I v ∧ TK σ' τ' N bt pl' k' l' n' ∧ pl ≤ pl' ∧ CG σ σ' ∧ RX τ τ') := by
  rw [rPart_as]
  rcases word1_ok hw hB hT with ⟨σ1, τ1, q1, q2, q3, q4, q5⟩ | ⟨σ1, τ1, pl1, k1, l1, n1, q1, q2, q3, q4, q5, q6⟩
  · refine Or.inl ⟨σ1, τ1, ?_, ?_, q3, q4, q5⟩
    · rw [q1, bd_s, if_pos (show I 0 = (0 : Int32) from rfl), h0]
    · obtain ⟨f, pf, -, -, hF⟩ := q3
      rw [q2, bd_s, ft_whole hF]
  · rcases whole_ok (BY_f hB q5 q6) q3 hl hh with ⟨σ2, τ2, p1, p2, p3, p4, p5⟩ | ⟨σ2, τ2, v, pl2, k2, l2, n2, p1, p2, p3, p4, p5, p6, p7, p8, p9⟩
    · refine Or.inl ⟨σ2, τ2, ?_, ?_, p3, CGt q5 p4, RXt q6 p5⟩
      · rw [q1, bd_s, if_neg (show ¬ I 1 = (0 : Int32) by decide), p1, bd_s, if_pos (show I 0 = (0 : Int32) from rfl), h0]
      · rw [q2, bd_s, p2]
    · refine Or.inr ⟨σ2, τ2, v, pl2, k2, l2, n2, ?_, ?_, p3, p4, p5, p6, by omega, CGt q5 p8, RXt q6 p9⟩
      · rw [q1, bd_s, if_neg (show ¬ I 1 = (0 : Int32) by decide), p1, bd_s, if_neg (show ¬ I 1 = (0 : Int32) by decide)]
      · rw [q2, bd_s, p2]
/-- a number alone -/
theorem num1_ok {N pl : Nat} {bt : Nat → Int} {σ τ : Wd} {k n lo hi : Int} {l : List Int} {K0 K1 : Wd → Option (Int32 × Wd)} (h0 : ∀ s, K0 s = some (I 0, s)) (hB : BY σ τ N bt) (hT : TK σ τ N bt pl k l n) (hl : -1000 ≤ lo ∧ lo ≤ 1000) (hh : -1000 ≤ hi ∧ hi ≤ 1000) :
    (∃ (σ' τ' : Wd), (bd (f_X5_takesWhole (I lo) (I hi) σ) fun r3 σ4 => if r3 = 0 then K0 σ4 else K1 σ4) = some (I 0, σ') ∧ f_X7_readWhole (I lo) (I hi) τ = some (I lo, τ') ∧ BD σ' τ' ∧ CG σ σ' ∧ RX τ τ')
    ∨ (∃ (σ' τ' : Wd) (v : Int) (pl' : Nat) (k' : Int) (l' : List Int) (n' : Int), (bd (f_X5_takesWhole (I lo) (I hi) σ) fun r3 σ4 => if r3 = 0 then K0 σ4 else K1 σ4) = K1 σ' ∧ f_X7_readWhole (I lo) (I hi) τ = some (I v, τ') ∧ lo ≤ v ∧ v ≤ hi ∧ σ'.1 1 10 = I v ∧ TK σ' τ' N bt pl' k' l' n' ∧ pl ≤ pl' ∧ CG σ σ' ∧ RX τ τ') := by
  rcases whole_ok hB hT hl hh with ⟨σ2, τ2, p1, p2, p3⟩ | ⟨σ2, τ2, v, pl2, k2, l2, n2, p1, p2, p3⟩
  · refine Or.inl ⟨σ2, τ2, ?_, p2, p3⟩
    rw [p1, bd_s, if_pos (show I 0 = (0 : Int32) from rfl), h0]
  · refine Or.inr ⟨σ2, τ2, v, pl2, k2, l2, n2, ?_, p2, p3⟩
    rw [p1, bd_s, if_neg (show ¬ I 1 = (0 : Int32) by decide)]
/-! names -/
def nmb (k : Int) (l : List Int) : Bool := decide (k = 1) && (!decide (k = 1 ∧ l = lw 0) && (!decide (k = 1 ∧ l = lw 1) && (!decide (k = 1 ∧ l = lw 2) && !decide (k = 1 ∧ l = lw 3))))
theorem name_ok {N pl : Nat} {bt : Nat → Int} {σ τ : Wd} {k n : Int} {l : List Int} (hB : BY σ τ N bt) (hT : TK σ τ N bt pl k l n) : f_X5_isName σ = some (I (bn (nmb k l)), σ) ∧ f_X7_isName τ = some (I (bn (nmb k l)), τ) := by
  obtain ⟨a0, b0⟩ := isw_ok (w := 0) (by decide) hB hT
  obtain ⟨a1, b1⟩ := isw_ok (w := 1) (by decide) hB hT
  obtain ⟨a2, b2⟩ := isw_ok (w := 2) (by decide) hB hT
  obtain ⟨a3, b3⟩ := isw_ok (w := 3) (by decide) hB hT
  have kb := TK_k hT
  obtain ⟨nx, -, ⟨c5, c6, c7, c8, c1⟩, -, hc⟩ := hT
  have e30 : ∃ kd, τ.1 102 30 = I kd ∧ 0 ≤ kd ∧ kd ≤ 4 ∧ (kd = 2 ↔ k = 1) := by
    rcases hc with ⟨q, h⟩ | ⟨q, h, -⟩ | ⟨q, h, -⟩ | ⟨q, h, -⟩ | ⟨q, h, -⟩ | ⟨q, h⟩
    · exact ⟨1, h, by omega⟩
    · exact ⟨2, h, by omega⟩
    · exact ⟨3, h, by omega⟩
    · exact ⟨4, h, by omega⟩
    · exact ⟨4, h, by omega⟩
    · exact ⟨0, h, by omega⟩
  clear hc
  obtain ⟨kd, e30, k0, k4, k2⟩ := e30
  unfold nmb
  unfold f_X5_isName f_X5_isName_48 f_X5_isName_49 f_X7_isName f_X7_isName_48 f_X7_isName_49
  by_cases k1 : k = 1
  · have kd2 : kd = 2 := k2.mpr k1
    rw [decide_eq_true k1, Bool.true_and]
    cases h0 : decide (k = 1 ∧ l = lw 0) with
    | true =>
      rw [h0, bn_t] at a0 b0
      constructor
      · simp (disch := omega) only [gd_t, bd_s, nm_W, nm_I, I_add, I_sub, I_mul, I_neg, I_le_t, I_le_f, I_lt_t, I_lt_f, I_eq_t, I_eq_f, I_inb', I_ix', Int.toNat_natCast, decide_true, decide_false, Bool.not_false, Bool.not_true, if_true, if_false, wi_eq, wi_eq', wi_ne, wi_row, wi_2, N0, N1, N2, N3, N4, N5, N6, N7, N8, N9, N10, N11, N12, N13, N14, N15, N16, N17, N18, N19, N20, N21, N22, N23, N24, N25, N26, N27, N28, N29, N30, N31, N32, N33, N34, N35, N36, N37, N38, N39, N40, N41, N42, N43, N45, N48, N57, N59, N88, N89, N97, N99, N120, N121, N122, N179, N200, N255, N300, N400, N880, N900, N999, N1019, N50000000, N100000000, N1000000000, N2147483647, N2147483648, c7, a0, isb_0, Bool.false_and, bn_f]
      · simp (disch := omega) only [gd_t, bd_s, nm_W, nm_I, I_add, I_sub, I_mul, I_neg, I_le_t, I_le_f, I_lt_t, I_lt_f, I_eq_t, I_eq_f, I_inb', I_ix', Int.toNat_natCast, decide_true, decide_false, Bool.not_false, Bool.not_true, if_true, if_false, wi_eq, wi_eq', wi_ne, wi_row, wi_2, N0, N1, N2, N3, N4, N5, N6, N7, N8, N9, N10, N11, N12, N13, N14, N15, N16, N17, N18, N19, N20, N21, N22, N23, N24, N25, N26, N27, N28, N29, N30, N31, N32, N33, N34, N35, N36, N37, N38, N39, N40, N41, N42, N43, N45, N48, N57, N59, N88, N89, N97, N99, N120, N121, N122, N179, N200, N255, N300, N400, N880, N900, N999, N1019, N50000000, N100000000, N1000000000, N2147483647, N2147483648, e30, b0, isb_0, Bool.false_and, bn_f]
    | false =>
      rw [h0, bn_f] at a0 b0
      cases h1 : decide (k = 1 ∧ l = lw 1) with
      | true =>
        rw [h1, bn_t] at a1 b1
        constructor
        · simp (disch := omega) only [gd_t, bd_s, nm_W, nm_I, I_add, I_sub, I_mul, I_neg, I_le_t, I_le_f, I_lt_t, I_lt_f, I_eq_t, I_eq_f, I_inb', I_ix', Int.toNat_natCast, decide_true, decide_false, Bool.not_false, Bool.not_true, if_true, if_false, wi_eq, wi_eq', wi_ne, wi_row, wi_2, N0, N1, N2, N3, N4, N5, N6, N7, N8, N9, N10, N11, N12, N13, N14, N15, N16, N17, N18, N19, N20, N21, N22, N23, N24, N25, N26, N27, N28, N29, N30, N31, N32, N33, N34, N35, N36, N37, N38, N39, N40, N41, N42, N43, N45, N48, N57, N59, N88, N89, N97, N99, N120, N121, N122, N179, N200, N255, N300, N400, N880, N900, N999, N1019, N50000000, N100000000, N1000000000, N2147483647, N2147483648, c7, a0, a1, isb_0, Bool.false_and, Bool.true_and, bn_f]
        · simp (disch := omega) only [gd_t, bd_s, nm_W, nm_I, I_add, I_sub, I_mul, I_neg, I_le_t, I_le_f, I_lt_t, I_lt_f, I_eq_t, I_eq_f, I_inb', I_ix', Int.toNat_natCast, decide_true, decide_false, Bool.not_false, Bool.not_true, if_true, if_false, wi_eq, wi_eq', wi_ne, wi_row, wi_2, N0, N1, N2, N3, N4, N5, N6, N7, N8, N9, N10, N11, N12, N13, N14, N15, N16, N17, N18, N19, N20, N21, N22, N23, N24, N25, N26, N27, N28, N29, N30, N31, N32, N33, N34, N35, N36, N37, N38, N39, N40, N41, N42, N43, N45, N48, N57, N59, N88, N89, N97, N99, N120, N121, N122, N179, N200, N255, N300, N400, N880, N900, N999, N1019, N50000000, N100000000, N1000000000, N2147483647, N2147483648, e30, b0, b1, isb_0, Bool.false_and, Bool.true_and, bn_f]
      | false =>
        rw [h1, bn_f] at a1 b1
        cases h2 : decide (k = 1 ∧ l = lw 2) with
        | true =>
          rw [h2, bn_t] at a2 b2
          constructor
          · simp (disch := omega) only [gd_t, bd_s, nm_W, nm_I, I_add, I_sub, I_mul, I_neg, I_le_t, I_le_f, I_lt_t, I_lt_f, I_eq_t, I_eq_f, I_inb', I_ix', Int.toNat_natCast, decide_true, decide_false, Bool.not_false, Bool.not_true, if_true, if_false, wi_eq, wi_eq', wi_ne, wi_row, wi_2, N0, N1, N2, N3, N4, N5, N6, N7, N8, N9, N10, N11, N12, N13, N14, N15, N16, N17, N18, N19, N20, N21, N22, N23, N24, N25, N26, N27, N28, N29, N30, N31, N32, N33, N34, N35, N36, N37, N38, N39, N40, N41, N42, N43, N45, N48, N57, N59, N88, N89, N97, N99, N120, N121, N122, N179, N200, N255, N300, N400, N880, N900, N999, N1019, N50000000, N100000000, N1000000000, N2147483647, N2147483648, c7, a0, a1, a2, isb_0, Bool.false_and, Bool.true_and, bn_f]
          · simp (disch := omega) only [gd_t, bd_s, nm_W, nm_I, I_add, I_sub, I_mul, I_neg, I_le_t, I_le_f, I_lt_t, I_lt_f, I_eq_t, I_eq_f, I_inb', I_ix', Int.toNat_natCast, decide_true, decide_false, Bool.not_false, Bool.not_true, if_true, if_false, wi_eq, wi_eq', wi_ne, wi_row, wi_2, N0, N1, N2, N3, N4, N5, N6, N7, N8, N9, N10, N11, N12, N13, N14, N15, N16, N17, N18, N19, N20, N21, N22, N23, N24, N25, N26, N27, N28, N29, N30, N31, N32, N33, N34, N35, N36, N37, N38, N39, N40, N41, N42, N43, N45, N48, N57, N59, N88, N89, N97, N99, N120, N121, N122, N179, N200, N255, N300, N400, N880, N900, N999, N1019, N50000000, N100000000, N1000000000, N2147483647, N2147483648, e30, b0, b1, b2, isb_0, Bool.false_and, Bool.true_and, bn_f]
        | false =>
          rw [h2, bn_f] at a2 b2
          cases h3 : decide (k = 1 ∧ l = lw 3) with
          | true =>
            rw [h3, bn_t] at a3 b3
            constructor
            · simp (disch := omega) only [gd_t, bd_s, nm_W, nm_I, I_add, I_sub, I_mul, I_neg, I_le_t, I_le_f, I_lt_t, I_lt_f, I_eq_t, I_eq_f, I_inb', I_ix', Int.toNat_natCast, decide_true, decide_false, Bool.not_false, Bool.not_true, if_true, if_false, wi_eq, wi_eq', wi_ne, wi_row, wi_2, N0, N1, N2, N3, N4, N5, N6, N7, N8, N9, N10, N11, N12, N13, N14, N15, N16, N17, N18, N19, N20, N21, N22, N23, N24, N25, N26, N27, N28, N29, N30, N31, N32, N33, N34, N35, N36, N37, N38, N39, N40, N41, N42, N43, N45, N48, N57, N59, N88, N89, N97, N99, N120, N121, N122, N179, N200, N255, N300, N400, N880, N900, N999, N1019, N50000000, N100000000, N1000000000, N2147483647, N2147483648, c7, a0, a1, a2, a3, isb_0, Bool.false_and, Bool.true_and, bn_f]
            · simp (disch := omega) only [gd_t, bd_s, nm_W, nm_I, I_add, I_sub, I_mul, I_neg, I_le_t, I_le_f, I_lt_t, I_lt_f, I_eq_t, I_eq_f, I_inb', I_ix', Int.toNat_natCast, decide_true, decide_false, Bool.not_false, Bool.not_true, if_true, if_false, wi_eq, wi_eq', wi_ne, wi_row, wi_2, N0, N1, N2, N3, N4, N5, N6, N7, N8, N9, N10, N11, N12, N13, N14, N15, N16, N17, N18, N19, N20, N21, N22, N23, N24, N25, N26, N27, N28, N29, N30, N31, N32, N33, N34, N35, N36, N37, N38, N39, N40, N41, N42, N43, N45, N48, N57, N59, N88, N89, N97, N99, N120, N121, N122, N179, N200, N255, N300, N400, N880, N900, N999, N1019, N50000000, N100000000, N1000000000, N2147483647, N2147483648, e30, b0, b1, b2, b3, isb_0, Bool.false_and, Bool.true_and, bn_f]
          | false =>
            rw [h3, bn_f] at a3 b3
            constructor
            · simp (disch := omega) only [gd_t, bd_s, nm_W, nm_I, I_add, I_sub, I_mul, I_neg, I_le_t, I_le_f, I_lt_t, I_lt_f, I_eq_t, I_eq_f, I_inb', I_ix', Int.toNat_natCast, decide_true, decide_false, Bool.not_false, Bool.not_true, if_true, if_false, wi_eq, wi_eq', wi_ne, wi_row, wi_2, N0, N1, N2, N3, N4, N5, N6, N7, N8, N9, N10, N11, N12, N13, N14, N15, N16, N17, N18, N19, N20, N21, N22, N23, N24, N25, N26, N27, N28, N29, N30, N31, N32, N33, N34, N35, N36, N37, N38, N39, N40, N41, N42, N43, N45, N48, N57, N59, N88, N89, N97, N99, N120, N121, N122, N179, N200, N255, N300, N400, N880, N900, N999, N1019, N50000000, N100000000, N1000000000, N2147483647, N2147483648, c7, a0, a1, a2, a3, isb_1, Bool.true_and, bn_t]
            · simp (disch := omega) only [gd_t, bd_s, nm_W, nm_I, I_add, I_sub, I_mul, I_neg, I_le_t, I_le_f, I_lt_t, I_lt_f, I_eq_t, I_eq_f, I_inb', I_ix', Int.toNat_natCast, decide_true, decide_false, Bool.not_false, Bool.not_true, if_true, if_false, wi_eq, wi_eq', wi_ne, wi_row, wi_2, N0, N1, N2, N3, N4, N5, N6, N7, N8, N9, N10, N11, N12, N13, N14, N15, N16, N17, N18, N19, N20, N21, N22, N23, N24, N25, N26, N27, N28, N29, N30, N31, N32, N33, N34, N35, N36, N37, N38, N39, N40, N41, N42, N43, N45, N48, N57, N59, N88, N89, N97, N99, N120, N121, N122, N179, N200, N255, N300, N400, N880, N900, N999, N1019, N50000000, N100000000, N1000000000, N2147483647, N2147483648, e30, b0, b1, b2, b3, isb_1, Bool.true_and, bn_t]
  · have kd2 : kd ≠ 2 := fun q => k1 (k2.mp q)
    rw [decide_eq_false k1, Bool.false_and, bn_f]
    constructor
    · simp (disch := omega) only [gd_t, bd_s, nm_W, nm_I, I_add, I_sub, I_mul, I_neg, I_le_t, I_le_f, I_lt_t, I_lt_f, I_eq_t, I_eq_f, I_inb', I_ix', Int.toNat_natCast, decide_true, decide_false, Bool.not_false, Bool.not_true, if_true, if_false, wi_eq, wi_eq', wi_ne, wi_row, wi_2, N0, N1, N2, N3, N4, N5, N6, N7, N8, N9, N10, N11, N12, N13, N14, N15, N16, N17, N18, N19, N20, N21, N22, N23, N24, N25, N26, N27, N28, N29, N30, N31, N32, N33, N34, N35, N36, N37, N38, N39, N40, N41, N42, N43, N45, N48, N57, N59, N88, N89, N97, N99, N120, N121, N122, N179, N200, N255, N300, N400, N880, N900, N999, N1019, N50000000, N100000000, N1000000000, N2147483647, N2147483648, c7, isb_0]
    · simp (disch := omega) only [gd_t, bd_s, nm_W, nm_I, I_add, I_sub, I_mul, I_neg, I_le_t, I_le_f, I_lt_t, I_lt_f, I_eq_t, I_eq_f, I_inb', I_ix', Int.toNat_natCast, decide_true, decide_false, Bool.not_false, Bool.not_true, if_true, if_false, wi_eq, wi_eq', wi_ne, wi_row, wi_2, N0, N1, N2, N3, N4, N5, N6, N7, N8, N9, N10, N11, N12, N13, N14, N15, N16, N17, N18, N19, N20, N21, N22, N23, N24, N25, N26, N27, N28, N29, N30, N31, N32, N33, N34, N35, N36, N37, N38, N39, N40, N41, N42, N43, N45, N48, N57, N59, N88, N89, N97, N99, N120, N121, N122, N179, N200, N255, N300, N400, N880, N900, N999, N1019, N50000000, N100000000, N1000000000, N2147483647, N2147483648, e30, isb_0]
theorem nmb_1 {k : Int} {l : List Int} (h : nmb k l = true) : k = 1 := by
  unfold nmb at h
  rw [Bool.and_eq_true] at h
  exact of_decide_eq_true h.1
/-- names told so far: V of them -/
def NMS (σ τ : Wd) (V : Nat) (nm : Nat → List Int) : Prop := V ≤ 5 ∧ ∀ v, v < V → ltr (nm v) ∧ (nm v).length ≤ 6 ∧ σ.1 3 v = I (w27 (nm v)) ∧ τ.2.1 111 v = w64 (nm v)
theorem find_ok {σ τ : Wd} {V : Nat} {nm : Nat → List Int} {l : List Int} (h : NMS σ τ V nm) (hl : ltr l) (l6 : l.length ≤ 6) (e34 : τ.2.1 102 34 = w64 l) (e19 : τ.1 102 19 = I (V : Int)) : ∀ (r v n n' : Nat) (z : Int), z = (v : Int) → v + r = V → r < n → r < n' →
    (f_X5_venueNamed_2 n (I (w27 l)) (I (V : Int)) (I z) σ = some (I (-1), σ) ∧ f_X7_venueBy_2 n' (I z) τ = some (I (-1), τ))
    ∨ (∃ u : Nat, u < V ∧ f_X5_venueNamed_2 n (I (w27 l)) (I (V : Int)) (I z) σ = some (I (u : Int), σ) ∧ f_X7_venueBy_2 n' (I z) τ = some (I (u : Int), τ))
  | 0, v, n + 1, n' + 1, z, hz, hv, _, _ => by
    have h5 := h.1
    refine Or.inl ⟨?_, ?_⟩
    · rw [f_X5_venueNamed_2]
      simp (disch := omega) only [gd_t, bd_s, nm_W, nm_I, I_add, I_sub, I_mul, I_neg, I_le_t, I_le_f, I_lt_t, I_lt_f, I_eq_t, I_eq_f, I_inb', I_ix', Int.toNat_natCast, decide_true, decide_false, Bool.not_false, Bool.not_true, if_true, if_false, wi_eq, wi_eq', wi_ne, wi_row, wi_2, N0, N1, N2, N3, N4, N5, N6, N7, N8, N9, N10, N11, N12, N13, N14, N15, N16, N17, N18, N19, N20, N21, N22, N23, N24, N25, N26, N27, N28, N29, N30, N31, N32, N33, N34, N35, N36, N37, N38, N39, N40, N41, N42, N43, N45, N48, N57, N59, N88, N89, N97, N99, N120, N121, N122, N179, N200, N255, N300, N400, N880, N900, N999, N1019, N50000000, N100000000, N1000000000, N2147483647, N2147483648]
    · rw [f_X7_venueBy_2]
      simp (disch := omega) only [gd_t, bd_s, nm_W, nm_I, I_add, I_sub, I_mul, I_neg, I_le_t, I_le_f, I_lt_t, I_lt_f, I_eq_t, I_eq_f, I_inb', I_ix', Int.toNat_natCast, decide_true, decide_false, Bool.not_false, Bool.not_true, if_true, if_false, wi_eq, wi_eq', wi_ne, wi_row, wi_2, N0, N1, N2, N3, N4, N5, N6, N7, N8, N9, N10, N11, N12, N13, N14, N15, N16, N17, N18, N19, N20, N21, N22, N23, N24, N25, N26, N27, N28, N29, N30, N31, N32, N33, N34, N35, N36, N37, N38, N39, N40, N41, N42, N43, N45, N48, N57, N59, N88, N89, N97, N99, N120, N121, N122, N179, N200, N255, N300, N400, N880, N900, N999, N1019, N50000000, N100000000, N1000000000, N2147483647, N2147483648, e19]
  | r + 1, v, n + 1, n' + 1, z, hz, hv, hn1, hn2 => by
    have h5 := h.1
    obtain ⟨a1, a2, a3, a4⟩ := h.2 v (by omega)
    have t1 : z.toNat = v := by omega
    have b1 := w27_6 a1 a2
    have b2 := w27_6 hl l6
    by_cases c : nm v = l
    · refine Or.inr ⟨v, by omega, ?_, ?_⟩
      · rw [f_X5_venueNamed_2]
        rw [c] at a3
        simp (disch := omega) only [gd_t, bd_s, nm_W, nm_I, I_add, I_sub, I_mul, I_neg, I_le_t, I_le_f, I_lt_t, I_lt_f, I_eq_t, I_eq_f, I_inb', I_ix', Int.toNat_natCast, decide_true, decide_false, Bool.not_false, Bool.not_true, if_true, if_false, wi_eq, wi_eq', wi_ne, wi_row, wi_2, N0, N1, N2, N3, N4, N5, N6, N7, N8, N9, N10, N11, N12, N13, N14, N15, N16, N17, N18, N19, N20, N21, N22, N23, N24, N25, N26, N27, N28, N29, N30, N31, N32, N33, N34, N35, N36, N37, N38, N39, N40, N41, N42, N43, N45, N48, N57, N59, N88, N89, N97, N99, N120, N121, N122, N179, N200, N255, N300, N400, N880, N900, N999, N1019, N50000000, N100000000, N1000000000, N2147483647, N2147483648, t1, a3]
        rw [hz]
      · rw [f_X7_venueBy_2]
        rw [c] at a4
        simp (disch := omega) only [gd_t, bd_s, nm_W, nm_I, I_add, I_sub, I_mul, I_neg, I_le_t, I_le_f, I_lt_t, I_lt_f, I_eq_t, I_eq_f, I_inb', I_ix', Int.toNat_natCast, decide_true, decide_false, Bool.not_false, Bool.not_true, if_true, if_false, wi_eq, wi_eq', wi_ne, wi_row, wi_2, N0, N1, N2, N3, N4, N5, N6, N7, N8, N9, N10, N11, N12, N13, N14, N15, N16, N17, N18, N19, N20, N21, N22, N23, N24, N25, N26, N27, N28, N29, N30, N31, N32, N33, N34, N35, N36, N37, N38, N39, N40, N41, N42, N43, N45, N48, N57, N59, N88, N89, N97, N99, N120, N121, N122, N179, N200, N255, N300, N400, N880, N900, N999, N1019, N50000000, N100000000, N1000000000, N2147483647, N2147483648, t1, a4, e34, e19, lg_0]
        rw [hz]
    · have c1 : w27 (nm v) ≠ w27 l := fun q => c (w27_inj _ _ a1 hl q)
      have c2 : ¬ w64 (nm v) = w64 l := fun q => c (w64_inj a1 hl a2 l6 q)
      have ih := find_ok h hl l6 e34 e19 r (v + 1) n n' (z + 1) (by omega) (by omega) (by omega) (by omega)
      have s1 : f_X5_venueNamed_2 (n + 1) (I (w27 l)) (I (V : Int)) (I z) σ = f_X5_venueNamed_2 n (I (w27 l)) (I (V : Int)) (I (z + 1)) σ := by
        rw [f_X5_venueNamed_2]
        clear ih
        simp (disch := omega) only [gd_t, bd_s, nm_W, nm_I, I_add, I_sub, I_mul, I_neg, I_le_t, I_le_f, I_lt_t, I_lt_f, I_eq_t, I_eq_f, I_inb', I_ix', Int.toNat_natCast, decide_true, decide_false, Bool.not_false, Bool.not_true, if_true, if_false, wi_eq, wi_eq', wi_ne, wi_row, wi_2, N0, N1, N2, N3, N4, N5, N6, N7, N8, N9, N10, N11, N12, N13, N14, N15, N16, N17, N18, N19, N20, N21, N22, N23, N24, N25, N26, N27, N28, N29, N30, N31, N32, N33, N34, N35, N36, N37, N38, N39, N40, N41, N42, N43, N45, N48, N57, N59, N88, N89, N97, N99, N120, N121, N122, N179, N200, N255, N300, N400, N880, N900, N999, N1019, N50000000, N100000000, N1000000000, N2147483647, N2147483648, t1, a3]
      have s2 : f_X7_venueBy_2 (n' + 1) (I z) τ = f_X7_venueBy_2 n' (I (z + 1)) τ := by
        rw [f_X7_venueBy_2]
        clear ih
        simp (disch := omega) only [gd_t, bd_s, nm_W, nm_I, I_add, I_sub, I_mul, I_neg, I_le_t, I_le_f, I_lt_t, I_lt_f, I_eq_t, I_eq_f, I_inb', I_ix', Int.toNat_natCast, decide_true, decide_false, Bool.not_false, Bool.not_true, if_true, if_false, wi_eq, wi_eq', wi_ne, wi_row, wi_2, N0, N1, N2, N3, N4, N5, N6, N7, N8, N9, N10, N11, N12, N13, N14, N15, N16, N17, N18, N19, N20, N21, N22, N23, N24, N25, N26, N27, N28, N29, N30, N31, N32, N33, N34, N35, N36, N37, N38, N39, N40, N41, N42, N43, N45, N48, N57, N59, N88, N89, N97, N99, N120, N121, N122, N179, N200, N255, N300, N400, N880, N900, N999, N1019, N50000000, N100000000, N1000000000, N2147483647, N2147483648, t1, a4, e34, e19, lg_0, c2]
      rw [s1, s2]
      exact ih
