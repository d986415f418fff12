/-! PURE: the text: a step, in step; what the reference does once it has a fault; words -/
theorem tok_word {N nx : Nat} {bt : Nat → Int} {σ τ : Wd} (hB : BY σ τ N bt) (hS : ST σ τ N nx) (h : nx < N) (hb : 97 ≤ bt nx ∧ bt nx ≤ 122) : ∃ (σ' τ' : Wd) (k : Int) (l : List Int) (n : Int), f_X5_step_38 σ = some (0, σ') ∧ nxt τ = some (0, τ') ∧ TK σ' τ' N bt nx k l n ∧ CF σ σ' ∧ RX τ τ' := by
  obtain ⟨⟨c5, c6, c1⟩, e28, e29, e33, hn⟩ := hS
  have hN := hB.1
  obtain ⟨b1, b2, b3, b4⟩ := hB.2 nx h
  obtain ⟨b, hbb⟩ : ∃ b, b = bt nx := ⟨_, rfl⟩
  rw [← hbb] at b1 b2 b3 b4 hb
  have eb := rByte (τ := wi τ 102 31 (I (nx : Int))) hN (by rw [wi_ne (by decide)]; exact e28) h (by rw [wi_row (by decide)]; exact b2) b3 b4
  rw [show b % 256 = b by omega] at eb
  have i1 := rIn1 (σ := wi τ 102 31 (I (nx : Int))) (z := b) (lo := 97) (hi := 122) (by unfold R; omega) (by unfold R; omega) (by unfold R; omega) hb
  have es : f_X5_sortOf (I b) (wi (wi σ 1 8 (I (nx : Int))) 1 9 (I 0)) = some (I 1, wi (wi σ 1 8 (I (nx : Int))) 1 9 (I 0)) := by
    unfold f_X5_sortOf
    simp (disch := omega) only [gd_t, bd_s, nm_W, nm_I, I_add, I_sub, I_mul, I_neg, I_le_t, I_le_f, I_lt_t, I_lt_f, I_eq_t, I_eq_f, I_inb', I_ix', Int.toNat_natCast, decide_true, decide_false, Bool.not_false, Bool.not_true, if_true, if_false, wi_eq, wi_eq', wi_ne, wi_row, wi_2, N0, N1, N2, N3, N4, N5, N6, N7, N8, N9, N10, N11, N12, N13, N14, N15, N16, N17, N18, N19, N20, N21, N22, N23, N24, N25, N26, N27, N28, N29, N30, N31, N32, N33, N34, N35, N36, N37, N38, N39, N40, N41, N42, N43, N45, N48, N57, N59, N88, N89, N97, N99, N120, N121, N122, N179, N200, N255, N300, N400, N880, N900, N999, N1019, N50000000, N100000000, N1000000000, N2147483647, N2147483648]
  have w0 : WD bt nx nx = [] := by
    unfold WD
    rw [show min (nx - nx) 6 = 0 by omega]
    rfl
  obtain ⟨σ', τ', k, l, q1, q2, q3, q4, q5⟩ := word_ok (N - nx) nx FU FU (wi (wi (wi σ 1 8 (I (nx : Int))) 1 9 (I 0)) 1 7 (I 1)) (wl (wi τ 102 31 (I (nx : Int))) 102 34 0) (by omega) (by show _ < 6000; omega) (by show _ < 6000; omega) (BY_f hB (CGt CGw (CGt CGw CGw)) (RXt (RXw (by omega)) RXl))
    ⟨⟨by simp (disch := omega) only [wi_eq, wi_eq', wi_ne, wi_row, wi_2]; exact c5, by simp (disch := omega) only [wi_eq, wi_eq', wi_ne, wi_row, wi_2]; exact c6, by simp (disch := omega) only [wi_eq, wi_eq', wi_ne, wi_row, wi_2], by simp (disch := omega) only [wi_eq, wi_eq', wi_ne, wi_row, wi_2], by simp (disch := omega) only [wi_eq, wi_eq', wi_ne, wi_row, wi_2]; rw [w0]; rfl, by simp (disch := omega) only [wi_eq, wi_eq', wi_ne, wi_row, wi_2]; exact c1⟩, ⟨by rw [wl_1]; simp (disch := omega) only [wi_eq, wi_eq', wi_ne, wi_row, wi_2]; exact e28, by rw [wl_1]; simp (disch := omega) only [wi_eq, wi_eq', wi_ne, wi_row, wi_2]; exact e29, by rw [wl_1]; simp (disch := omega) only [wi_eq, wi_eq', wi_ne, wi_row, wi_2], by rw [wl_1]; simp (disch := omega) only [wi_eq, wi_eq', wi_ne, wi_row, wi_2]; exact e33, by rw [wl_eq, w0]; rfl⟩, Nat.le_refl _, hn, fun i hi => absurd hi (by omega)⟩
  refine ⟨σ', τ', k, l, 0, ?_, ?_, q3, CFt (CFt CFw (CFt CFw CFw)) q4, RXt (RXt (RXw (by omega)) RXl) q5⟩
  · unfold f_X5_step_38 f_X5_step_79 f_X5_step_140
    simp (disch := omega) only [gd_t, bd_s, nm_W, nm_I, I_add, I_sub, I_mul, I_neg, I_le_t, I_le_f, I_lt_t, I_lt_f, I_eq_t, I_eq_f, I_inb', I_ix', Int.toNat_natCast, decide_true, decide_false, Bool.not_false, Bool.not_true, if_true, if_false, wi_eq, wi_eq', wi_ne, wi_row, wi_2, N0, N1, N2, N3, N4, N5, N6, N7, N8, N9, N10, N11, N12, N13, N14, N15, N16, N17, N18, N19, N20, N21, N22, N23, N24, N25, N26, N27, N28, N29, N30, N31, N32, N33, N34, N35, N36, N37, N38, N39, N40, N41, N42, N43, N45, N48, N57, N59, N88, N89, N97, N99, N120, N121, N122, N179, N200, N255, N300, N400, N880, N900, N999, N1019, N50000000, N100000000, N1000000000, N2147483647, N2147483648, c5, c6, b1, es, f_X5_stepOver, f_X5_stepOver_15, f_X5_stepOver_32]
    rw [show (97 : Int) - 1 = 96 from rfl, q1, bd_s]
  · rw [nxt_1 e29 eb (by omega), i1, bd_s, if_neg (show ¬ I 1 = (0 : Int32) by decide)]
    unfold f_X7_nextWord
    rw [nm_W, q2, bd_s]
    rfl
theorem tok_num {N nx : Nat} {bt : Nat → Int} {σ τ : Wd} (hB : BY σ τ N bt) (hS : ST σ τ N nx) (h : nx < N) (hb : 48 ≤ bt nx ∧ bt nx ≤ 57) : ∃ (σ' τ' : Wd) (k : Int) (l : List Int) (n : Int), f_X5_step_38 σ = some (0, σ') ∧ nxt τ = some (0, τ') ∧ TK σ' τ' N bt nx k l n ∧ CF σ σ' ∧ RX τ τ' := by
  obtain ⟨⟨c5, c6, c1⟩, e28, e29, e33, hn⟩ := hS
  have hN := hB.1
  obtain ⟨b1, b2, b3, b4⟩ := hB.2 nx h
  obtain ⟨b, hbb⟩ : ∃ b, b = bt nx := ⟨_, rfl⟩
  rw [← hbb] at b1 b2 b3 b4 hb
  have eb := rByte (τ := wi τ 102 31 (I (nx : Int))) hN (by rw [wi_ne (by decide)]; exact e28) h (by rw [wi_row (by decide)]; exact b2) b3 b4
  rw [show b % 256 = b by omega] at eb
  have i1 := rIn0 (σ := wi τ 102 31 (I (nx : Int))) (z := b) (lo := 97) (hi := 122) (by unfold R; omega) (by unfold R; omega) (by unfold R; omega) (by omega)
  have i2 := rIn1 (σ := wi τ 102 31 (I (nx : Int))) (z := b) (lo := 48) (hi := 57) (by unfold R; omega) (by unfold R; omega) (by unfold R; omega) hb
  have es : f_X5_sortOf (I b) (wi (wi σ 1 8 (I (nx : Int))) 1 9 (I 0)) = some (I 2, wi (wi σ 1 8 (I (nx : Int))) 1 9 (I 0)) := by
    unfold f_X5_sortOf f_X5_sortOf_14
    simp (disch := omega) only [gd_t, bd_s, nm_W, nm_I, I_add, I_sub, I_mul, I_neg, I_le_t, I_le_f, I_lt_t, I_lt_f, I_eq_t, I_eq_f, I_inb', I_ix', Int.toNat_natCast, decide_true, decide_false, Bool.not_false, Bool.not_true, if_true, if_false, wi_eq, wi_eq', wi_ne, wi_row, wi_2, N0, N1, N2, N3, N4, N5, N6, N7, N8, N9, N10, N11, N12, N13, N14, N15, N16, N17, N18, N19, N20, N21, N22, N23, N24, N25, N26, N27, N28, N29, N30, N31, N32, N33, N34, N35, N36, N37, N38, N39, N40, N41, N42, N43, N45, N48, N57, N59, N88, N89, N97, N99, N120, N121, N122, N179, N200, N255, N300, N400, N880, N900, N999, N1019, N50000000, N100000000, N1000000000, N2147483647, N2147483648]
  obtain ⟨σ', τ', k, n, q1, q2, q3, q4, q5⟩ := num_ok (bt := bt) (N - nx) nx FU FU (wi (wi (wi σ 1 8 (I (nx : Int))) 1 9 (I 0)) 1 7 (I 2)) (wi (wi τ 102 31 (I (nx : Int))) 102 32 (I 0)) 0 (by omega) (by show _ < 6000; omega) (by show _ < 6000; omega) (BY_f hB (CGt CGw (CGt CGw CGw)) (RXt (RXw (by omega)) (RXw (by omega))))
    ⟨⟨by simp (disch := omega) only [wi_eq, wi_eq', wi_ne, wi_row, wi_2]; exact c5, by simp (disch := omega) only [wi_eq, wi_eq', wi_ne, wi_row, wi_2]; exact c6, by simp (disch := omega) only [wi_eq, wi_eq', wi_ne, wi_row, wi_2], by simp (disch := omega) only [wi_eq, wi_eq', wi_ne, wi_row, wi_2], by simp (disch := omega) only [wi_eq, wi_eq', wi_ne, wi_row, wi_2], by simp (disch := omega) only [wi_eq, wi_eq', wi_ne, wi_row, wi_2]; exact c1⟩, ⟨by simp (disch := omega) only [wi_eq, wi_eq', wi_ne, wi_row, wi_2]; exact e28, by simp (disch := omega) only [wi_eq, wi_eq', wi_ne, wi_row, wi_2]; exact e29, by simp (disch := omega) only [wi_eq, wi_eq', wi_ne, wi_row, wi_2], by simp (disch := omega) only [wi_eq, wi_eq', wi_ne, wi_row, wi_2]; exact e33, by simp (disch := omega) only [wi_eq, wi_eq', wi_ne, wi_row, wi_2]⟩, Nat.le_refl _, hn, by omega, by omega, by omega, by omega, by omega⟩
  refine ⟨σ', τ', k, [], n, ?_, ?_, q3, CFt (CFt CFw (CFt CFw CFw)) q4, RXt (RXt (RXw (by omega)) (RXw (by omega))) q5⟩
  · unfold f_X5_step_38 f_X5_step_79 f_X5_step_140
    simp (disch := omega) only [gd_t, bd_s, nm_W, nm_I, I_add, I_sub, I_mul, I_neg, I_le_t, I_le_f, I_lt_t, I_lt_f, I_eq_t, I_eq_f, I_inb', I_ix', Int.toNat_natCast, decide_true, decide_false, Bool.not_false, Bool.not_true, if_true, if_false, wi_eq, wi_eq', wi_ne, wi_row, wi_2, N0, N1, N2, N3, N4, N5, N6, N7, N8, N9, N10, N11, N12, N13, N14, N15, N16, N17, N18, N19, N20, N21, N22, N23, N24, N25, N26, N27, N28, N29, N30, N31, N32, N33, N34, N35, N36, N37, N38, N39, N40, N41, N42, N43, N45, N48, N57, N59, N88, N89, N97, N99, N120, N121, N122, N179, N200, N255, N300, N400, N880, N900, N999, N1019, N50000000, N100000000, N1000000000, N2147483647, N2147483648, c5, c6, b1, es, f_X5_stepOver, f_X5_stepOver_15, f_X5_stepOver_32, q1]
  · rw [nxt_1 e29 eb (by omega), i1, bd_s, if_pos (show I 0 = (0 : Int32) from rfl), i2, bd_s, if_neg (show ¬ I 1 = (0 : Int32) by decide)]
    unfold f_X7_nextWhole
    rw [nm_W, show wi (wi τ 102 31 (I (nx : Int))) 102 32 (0 : Int32) = wi (wi τ 102 31 (I (nx : Int))) 102 32 (I 0) from rfl, q2, bd_s]
    rfl
theorem step0_ok {N nx : Nat} {bt : Nat → Int} {σ τ : Wd} (hB : BY σ τ N bt) (hS : ST σ τ N nx) : ∃ (σ' τ' : Wd) (pl : Nat) (k : Int) (l : List Int) (n : Int), f_X5_step σ = some (0, σ') ∧ f_X7_next τ = some (0, τ') ∧ TK σ' τ' N bt pl k l n ∧ nx ≤ pl ∧ CF σ σ' ∧ RX τ τ' := by
  have hN := hB.1
  have h33 := hS.2.2.2.1
  have hn := hS.2.2.2.2
  obtain ⟨σ1, τ1, nx', q1, q2, q3, q4, q5, q6, q7⟩ := skip_ok (N - nx) nx FU σ τ (by omega) (by show _ < 6000; omega) hB hS
  have hB1 := BY_f hB (CFG q6) q7
  have key : ∃ (σ' τ' : Wd) (k : Int) (l : List Int) (n : Int), f_X5_step_38 σ1 = some (0, σ') ∧ nxt τ1 = some (0, τ') ∧ TK σ' τ' N bt nx' k l n ∧ CF σ1 σ' ∧ RX τ1 τ' := by
    by_cases c0 : nx' = N
    · exact tok_fin hB1 q3 c0
    · have lt : nx' < N := by have := q3.2.2.2.2; omega
      by_cases c1 : 97 ≤ bt nx' ∧ bt nx' ≤ 122
      · exact tok_word hB1 q3 lt c1
      · by_cases c2 : 48 ≤ bt nx' ∧ bt nx' ≤ 57
        · exact tok_num hB1 q3 lt c2
        · by_cases c3 : bt nx' = 59
          · exact tok_sgn (k := 3) hB1 q3 lt c3 (Or.inl ⟨rfl, rfl⟩)
          · by_cases c4 : bt nx' = 45
            · exact tok_sgn (k := 4) hB1 q3 lt c4 (Or.inr ⟨rfl, rfl⟩)
            · exact tok_bad hB1 q3 lt ⟨c1, c2, c3, c4⟩
  obtain ⟨σ', τ', k, l, n, k1, k2, k3, k4, k5⟩ := key
  refine ⟨σ', τ', nx', k, l, n, ?_, ?_, k3, q1, CFt q6 k4, RXt q7 k5⟩
  · unfold f_X5_step
    rw [q4, k1]
  · unfold f_X7_next
    rw [if_pos (by rw [h33]; exact Int32.le_refl _), q5, k2]
theorem step_ok {N pl : Nat} {bt : Nat → Int} {σ τ : Wd} {k n : Int} {l : List Int} (hB : BY σ τ N bt) (hT : TK σ τ N bt pl k l n) (hk : k ≠ 5) : ∃ (σ' τ' : Wd) (pl' : Nat) (k' : Int) (l' : List Int) (n' : Int), f_X5_step σ = some (0, σ') ∧ f_X7_next τ = some (0, τ') ∧ TK σ' τ' N bt pl' k' l' n' ∧ (pl ≤ pl' ∧ (k = 3 → pl + 1 ≤ pl')) ∧ CF σ σ' ∧ RX τ τ' := by
  obtain ⟨nx, ⟨n1, n2, n3⟩, ⟨c5, c6, c7, c8, c1⟩, ⟨e28, e31, e33, e29⟩, -⟩ := hT
  obtain ⟨σ', τ', pl', k', l', n', q1, q2, q3, q4, q5⟩ := step0_ok hB ⟨⟨c5, c6, c1⟩, e28, e29 hk, e33, n2⟩
  exact ⟨σ', τ', pl', k', l', n', q1, q2, q3, ⟨by omega, fun q => by have := n3 q; omega⟩, q5⟩
/-! the reference with a fault -/
theorem wi_self {σ : Wd} {k j : Nat} {x : Int32} (h : σ.1 k j = x) : wi σ k j x = σ := by
  refine Prod.ext (funext fun a => funext fun i => ?_) rfl
  by_cases c : a = k
  · rw [c]
    by_cases e : i = j
    · rw [e, wi_eq, h]
    · rw [wi_ne e]
  · rw [wi_row c]
def FT (τ : Wd) (f : Int) (pl : Nat) : Prop := τ.1 102 33 = I f ∧ 1 ≤ f ∧ f ≤ 6 ∧ τ.1 102 30 = I 0 ∧ τ.1 102 31 = I (pl : Int)
section FAULT
variable {τ : Wd} {f : Int} {pl : Nat}
theorem ft_flaw {c : Int32} (h : FT τ f pl) : f_X7_flaw c τ = some (0, τ) := by
  obtain ⟨h1, h2, h3, h4, h5⟩ := h
  unfold f_X7_flaw f_X7_flaw_12
  simp (disch := omega) only [gd_t, bd_s, nm_W, nm_I, I_add, I_sub, I_mul, I_neg, I_le_t, I_le_f, I_lt_t, I_lt_f, I_eq_t, I_eq_f, I_inb', I_ix', Int.toNat_natCast, decide_true, decide_false, Bool.not_false, Bool.not_true, if_true, if_false, wi_eq, wi_eq', wi_ne, wi_row, wi_2, N0, N1, N2, N3, N4, N5, N6, N7, N8, N9, N10, N11, N12, N13, N14, N15, N16, N17, N18, N19, N20, N21, N22, N23, N24, N25, N26, N27, N28, N29, N30, N31, N32, N33, N34, N35, N36, N37, N38, N39, N40, N41, N42, N43, N45, N48, N57, N59, N88, N89, N97, N99, N120, N121, N122, N179, N200, N255, N300, N400, N880, N900, N999, N1019, N50000000, N100000000, N1000000000, N2147483647, N2147483648, h1]
  rw [wi_self h4]
theorem ft_next (h : FT τ f pl) : f_X7_next τ = some (0, τ) := by
  obtain ⟨h1, h2, h3, h4, h5⟩ := h
  unfold f_X7_next
  simp (disch := omega) only [gd_t, bd_s, nm_W, nm_I, I_add, I_sub, I_mul, I_neg, I_le_t, I_le_f, I_lt_t, I_lt_f, I_eq_t, I_eq_f, I_inb', I_ix', Int.toNat_natCast, decide_true, decide_false, Bool.not_false, Bool.not_true, if_true, if_false, wi_eq, wi_eq', wi_ne, wi_row, wi_2, N0, N1, N2, N3, N4, N5, N6, N7, N8, N9, N10, N11, N12, N13, N14, N15, N16, N17, N18, N19, N20, N21, N22, N23, N24, N25, N26, N27, N28, N29, N30, N31, N32, N33, N34, N35, N36, N37, N38, N39, N40, N41, N42, N43, N45, N48, N57, N59, N88, N89, N97, N99, N120, N121, N122, N179, N200, N255, N300, N400, N880, N900, N999, N1019, N50000000, N100000000, N1000000000, N2147483647, N2147483648, h1]
theorem ft_whole {lo hi : Int32} (h : FT τ f pl) : f_X7_readWhole lo hi τ = some (lo, τ) := by
  have e1 := ft_flaw (c := I 1) h
  have e2 := ft_next h
  obtain ⟨h1, h2, h3, h4, h5⟩ := h
  unfold f_X7_readWhole f_X7_readWhole_33 f_X7_readWhole_54
  simp (disch := omega) only [gd_t, bd_s, nm_W, nm_I, I_add, I_sub, I_mul, I_neg, I_le_t, I_le_f, I_lt_t, I_lt_f, I_eq_t, I_eq_f, I_inb', I_ix', Int.toNat_natCast, decide_true, decide_false, Bool.not_false, Bool.not_true, if_true, if_false, wi_eq, wi_eq', wi_ne, wi_row, wi_2, N0, N1, N2, N3, N4, N5, N6, N7, N8, N9, N10, N11, N12, N13, N14, N15, N16, N17, N18, N19, N20, N21, N22, N23, N24, N25, N26, N27, N28, N29, N30, N31, N32, N33, N34, N35, N36, N37, N38, N39, N40, N41, N42, N43, N45, N48, N57, N59, N88, N89, N97, N99, N120, N121, N122, N179, N200, N255, N300, N400, N880, N900, N999, N1019, N50000000, N100000000, N1000000000, N2147483647, N2147483648, h4, e1, e2, h1]
theorem rW0 {w : Nat} {kd : Int} (hk : τ.1 102 30 = I kd) (k0 : 0 ≤ kd ∧ kd ≤ 4) (k2 : kd ≠ 2) {L : Nat} (hL : txL.getD w 0 = L) (L5 : L ≤ 5) : ∀ (r i n : Nat) (x : Int64) (z : Int), z = (i : Int) → i + r = L → r < n → f_X7_isWord_5 w n x (I z) τ = some (I 0, τ)
  | 0, i, n + 1, x, z, hz, hi, _ => by
    have eL : nI L = I (L : Int) := (I_nat L).symm
    rw [f_X7_isWord_5]
    unfold f_X7_isWord_54 f_X7_isWord_55
    rw [hL, eL]
    simp (disch := omega) only [gd_t, bd_s, nm_W, nm_I, I_add, I_sub, I_mul, I_neg, I_le_t, I_le_f, I_lt_t, I_lt_f, I_eq_t, I_eq_f, I_inb', I_ix', Int.toNat_natCast, decide_true, decide_false, Bool.not_false, Bool.not_true, if_true, if_false, wi_eq, wi_eq', wi_ne, wi_row, wi_2, N0, N1, N2, N3, N4, N5, N6, N7, N8, N9, N10, N11, N12, N13, N14, N15, N16, N17, N18, N19, N20, N21, N22, N23, N24, N25, N26, N27, N28, N29, N30, N31, N32, N33, N34, N35, N36, N37, N38, N39, N40, N41, N42, N43, N45, N48, N57, N59, N88, N89, N97, N99, N120, N121, N122, N179, N200, N255, N300, N400, N880, N900, N999, N1019, N50000000, N100000000, N1000000000, N2147483647, N2147483648, hk, isb_0]
  | r + 1, i, n + 1, x, z, hz, hi, hn => by
    have eL : nI L = I (L : Int) := (I_nat L).symm
    have ih := fun x => rW0 (w := w) hk k0 k2 hL L5 r (i + 1) n x (z + 1) (by omega) (by omega) (by omega)
    rw [f_X7_isWord_5]
    rw [hL, eL]
    simp (disch := omega) only [gd_t, bd_s, nm_W, nm_I, I_add, I_sub, I_mul, I_neg, I_le_t, I_le_f, I_lt_t, I_lt_f, I_eq_t, I_eq_f, I_inb', I_ix', Int.toNat_natCast, decide_true, decide_false, Bool.not_false, Bool.not_true, if_true, if_false, wi_eq, wi_eq', wi_ne, wi_row, wi_2, N0, N1, N2, N3, N4, N5, N6, N7, N8, N9, N10, N11, N12, N13, N14, N15, N16, N17, N18, N19, N20, N21, N22, N23, N24, N25, N26, N27, N28, N29, N30, N31, N32, N33, N34, N35, N36, N37, N38, N39, N40, N41, N42, N43, N45, N48, N57, N59, N88, N89, N97, N99, N120, N121, N122, N179, N200, N255, N300, N400, N880, N900, N999, N1019, N50000000, N100000000, N1000000000, N2147483647, N2147483648, ih]
theorem txL5 (w : Nat) (hw : w < 13) : txL.getD w 0 ≤ 5 := (show ∀ w : Fin 13, txL.getD w.val 0 ≤ 5 by decide) ⟨w, hw⟩
theorem rWord0 {w : Nat} {kd : Int} (hw : w < 13) (hk : τ.1 102 30 = I kd) (k0 : 0 ≤ kd ∧ kd ≤ 4) (k2 : kd ≠ 2) : f_X7_isWord w τ = some (I 0, τ) :=
  rW0 hk k0 k2 rfl (txL5 w hw) (txL.getD w 0) 0 FU 0 0 rfl (by omega) (by have := txL5 w hw; show _ < 6000; omega)
theorem ft_word {w : Nat} (hw : w < 13) (h : FT τ f pl) : f_X7_isWord w τ = some (I 0, τ) := rWord0 hw h.2.2.2.1 (by omega) (by omega)
theorem ft_part {w : Nat} {lo hi : Int32} (hw : w < 13) (h : FT τ f pl) : f_X7_readPart w lo hi τ = some (lo, τ) := by
  have e0 := ft_word hw h
  have e1 := ft_flaw (c := I 1) h
  have e2 := ft_next h
  have e3 := ft_whole (lo := lo) (hi := hi) h
  unfold f_X7_readPart f_X7_readPart_13
  simp (disch := omega) only [gd_t, bd_s, nm_W, nm_I, I_add, I_sub, I_mul, I_neg, I_le_t, I_le_f, I_lt_t, I_lt_f, I_eq_t, I_eq_f, I_inb', I_ix', Int.toNat_natCast, decide_true, decide_false, Bool.not_false, Bool.not_true, if_true, if_false, wi_eq, wi_eq', wi_ne, wi_row, wi_2, N0, N1, N2, N3, N4, N5, N6, N7, N8, N9, N10, N11, N12, N13, N14, N15, N16, N17, N18, N19, N20, N21, N22, N23, N24, N25, N26, N27, N28, N29, N30, N31, N32, N33, N34, N35, N36, N37, N38, N39, N40, N41, N42, N43, N45, N48, N57, N59, N88, N89, N97, N99, N120, N121, N122, N179, N200, N255, N300, N400, N880, N900, N999, N1019, N50000000, N100000000, N1000000000, N2147483647, N2147483648, e0, e1, e2, e3]
theorem ft_name (h : FT τ f pl) : f_X7_isName τ = some (I 0, τ) := by
  have h4 := h.2.2.2.1
  unfold f_X7_isName f_X7_isName_48 f_X7_isName_49
  simp (disch := omega) only [gd_t, bd_s, nm_W, nm_I, I_add, I_sub, I_mul, I_neg, I_le_t, I_le_f, I_lt_t, I_lt_f, I_eq_t, I_eq_f, I_inb', I_ix', Int.toNat_natCast, decide_true, decide_false, Bool.not_false, Bool.not_true, if_true, if_false, wi_eq, wi_eq', wi_ne, wi_row, wi_2, N0, N1, N2, N3, N4, N5, N6, N7, N8, N9, N10, N11, N12, N13, N14, N15, N16, N17, N18, N19, N20, N21, N22, N23, N24, N25, N26, N27, N28, N29, N30, N31, N32, N33, N34, N35, N36, N37, N38, N39, N40, N41, N42, N43, N45, N48, N57, N59, N88, N89, N97, N99, N120, N121, N122, N179, N200, N255, N300, N400, N880, N900, N999, N1019, N50000000, N100000000, N1000000000, N2147483647, N2147483648, h4, isb_0]
theorem ft_known (h : FT τ f pl) : f_X7_knownVenue τ = some (I 0, τ) := by
  have e0 := ft_name h
  have e1 := ft_flaw (c := I 1) h
  have e2 := ft_flaw (c := I 2) h
  obtain ⟨h1, h2, h3, h4, h5⟩ := h
  unfold f_X7_knownVenue f_X7_knownVenue_12 f_X7_knownVenue_27 f_X7_knownVenue_38 f_X7_knownVenue_50
  simp (disch := omega) only [gd_t, bd_s, nm_W, nm_I, I_add, I_sub, I_mul, I_neg, I_le_t, I_le_f, I_lt_t, I_lt_f, I_eq_t, I_eq_f, I_inb', I_ix', Int.toNat_natCast, decide_true, decide_false, Bool.not_false, Bool.not_true, if_true, if_false, wi_eq, wi_eq', wi_ne, wi_row, wi_2, N0, N1, N2, N3, N4, N5, N6, N7, N8, N9, N10, N11, N12, N13, N14, N15, N16, N17, N18, N19, N20, N21, N22, N23, N24, N25, N26, N27, N28, N29, N30, N31, N32, N33, N34, N35, N36, N37, N38, N39, N40, N41, N42, N43, N45, N48, N57, N59, N88, N89, N97, N99, N120, N121, N122, N179, N200, N255, N300, N400, N880, N900, N999, N1019, N50000000, N100000000, N1000000000, N2147483647, N2147483648, e0, e1, e2, h1]
theorem ft_kind (h : FT τ f pl) : f_X7_readKind τ = some (I (-1), τ) := by
  have e6 := ft_word (w := 6) (by decide) h
  have e7 := ft_word (w := 7) (by decide) h
  have e8 := ft_word (w := 8) (by decide) h
  have e1 := ft_flaw (c := I 1) h
  have e2 := ft_next h
  unfold f_X7_readKind f_X7_readKind_40 f_X7_readKind_51
  simp (disch := omega) only [gd_t, bd_s, nm_W, nm_I, I_add, I_sub, I_mul, I_neg, I_le_t, I_le_f, I_lt_t, I_lt_f, I_eq_t, I_eq_f, I_inb', I_ix', Int.toNat_natCast, decide_true, decide_false, Bool.not_false, Bool.not_true, if_true, if_false, wi_eq, wi_eq', wi_ne, wi_row, wi_2, N0, N1, N2, N3, N4, N5, N6, N7, N8, N9, N10, N11, N12, N13, N14, N15, N16, N17, N18, N19, N20, N21, N22, N23, N24, N25, N26, N27, N28, N29, N30, N31, N32, N33, N34, N35, N36, N37, N38, N39, N40, N41, N42, N43, N45, N48, N57, N59, N88, N89, N97, N99, N120, N121, N122, N179, N200, N255, N300, N400, N880, N900, N999, N1019, N50000000, N100000000, N1000000000, N2147483647, N2147483648, e6, e7, e8, e1, e2]
theorem ft_sign {c : Int32} (h : FT τ f pl) : f_X7_isSign c τ = some (I 0, τ) := by
  have h4 := h.2.2.2.1
  unfold f_X7_isSign f_X7_isSign_20 f_X7_isSign_21
  simp (disch := omega) only [gd_t, bd_s, nm_W, nm_I, I_add, I_sub, I_mul, I_neg, I_le_t, I_le_f, I_lt_t, I_lt_f, I_eq_t, I_eq_f, I_inb', I_ix', Int.toNat_natCast, decide_true, decide_false, Bool.not_false, Bool.not_true, if_true, if_false, wi_eq, wi_eq', wi_ne, wi_row, wi_2, N0, N1, N2, N3, N4, N5, N6, N7, N8, N9, N10, N11, N12, N13, N14, N15, N16, N17, N18, N19, N20, N21, N22, N23, N24, N25, N26, N27, N28, N29, N30, N31, N32, N33, N34, N35, N36, N37, N38, N39, N40, N41, N42, N43, N45, N48, N57, N59, N88, N89, N97, N99, N120, N121, N122, N179, N200, N255, N300, N400, N880, N900, N999, N1019, N50000000, N100000000, N1000000000, N2147483647, N2147483648, h4, isb_0]
theorem ft_fee (h : FT τ f pl) : f_X7_readFeeOf τ = some (I 0, τ) := by
  have e0 := ft_word (w := 10) (by decide) h
  have e1 := ft_flaw (c := I 1) h
  have e2 := ft_next h
  have e3 := ft_sign (c := I 45) h
  have e4 := ft_whole (lo := I 0) (hi := I 9) h
  unfold f_X7_readFeeOf f_X7_readFeeOf_14 f_X7_readFeeOf_33 f_X7_readFeeOf_51
  simp (disch := omega) only [gd_t, bd_s, nm_W, nm_I, I_add, I_sub, I_mul, I_neg, I_le_t, I_le_f, I_lt_t, I_lt_f, I_eq_t, I_eq_f, I_inb', I_ix', Int.toNat_natCast, decide_true, decide_false, Bool.not_false, Bool.not_true, if_true, if_false, wi_eq, wi_eq', wi_ne, wi_row, wi_2, N0, N1, N2, N3, N4, N5, N6, N7, N8, N9, N10, N11, N12, N13, N14, N15, N16, N17, N18, N19, N20, N21, N22, N23, N24, N25, N26, N27, N28, N29, N30, N31, N32, N33, N34, N35, N36, N37, N38, N39, N40, N41, N42, N43, N45, N48, N57, N59, N88, N89, N97, N99, N120, N121, N122, N179, N200, N255, N300, N400, N880, N900, N999, N1019, N50000000, N100000000, N1000000000, N2147483647, N2147483648, e0, e1, e2, e3, e4]
theorem ft_begins {c : Int32} (h : FT τ f pl) : f_X7_begins c τ = some (0, τ) := by
  have e5 := ft_flaw (c := I 5) h
  have e6 := ft_flaw (c := I 6) h
  have e2 := ft_next h
  have e9 : f_X7_begins_9 τ = some (0, τ) := by
    unfold f_X7_begins_9 f_X7_begins_22
    by_cases c : τ.1 102 16 = (0 : Int32)
    · rw [if_pos c]
      simp (disch := omega) only [gd_t, bd_s, nm_W, nm_I, I_add, I_sub, I_mul, I_neg, I_le_t, I_le_f, I_lt_t, I_lt_f, I_eq_t, I_eq_f, I_inb', I_ix', Int.toNat_natCast, decide_true, decide_false, Bool.not_false, Bool.not_true, if_true, if_false, wi_eq, wi_eq', wi_ne, wi_row, wi_2, N0, N1, N2, N3, N4, N5, N6, N7, N8, N9, N10, N11, N12, N13, N14, N15, N16, N17, N18, N19, N20, N21, N22, N23, N24, N25, N26, N27, N28, N29, N30, N31, N32, N33, N34, N35, N36, N37, N38, N39, N40, N41, N42, N43, N45, N48, N57, N59, N88, N89, N97, N99, N120, N121, N122, N179, N200, N255, N300, N400, N880, N900, N999, N1019, N50000000, N100000000, N1000000000, N2147483647, N2147483648, e6, e2]
    · rw [if_neg c]
      simp (disch := omega) only [gd_t, bd_s, nm_W, nm_I, I_add, I_sub, I_mul, I_neg, I_le_t, I_le_f, I_lt_t, I_lt_f, I_eq_t, I_eq_f, I_inb', I_ix', Int.toNat_natCast, decide_true, decide_false, Bool.not_false, Bool.not_true, if_true, if_false, wi_eq, wi_eq', wi_ne, wi_row, wi_2, N0, N1, N2, N3, N4, N5, N6, N7, N8, N9, N10, N11, N12, N13, N14, N15, N16, N17, N18, N19, N20, N21, N22, N23, N24, N25, N26, N27, N28, N29, N30, N31, N32, N33, N34, N35, N36, N37, N38, N39, N40, N41, N42, N43, N45, N48, N57, N59, N88, N89, N97, N99, N120, N121, N122, N179, N200, N255, N300, N400, N880, N900, N999, N1019, N50000000, N100000000, N1000000000, N2147483647, N2147483648, e2]
  unfold f_X7_begins
  by_cases q : c = 0
  · rw [if_pos q, e9]
  · rw [if_neg q]
    simp (disch := omega) only [gd_t, bd_s, nm_W, nm_I, I_add, I_sub, I_mul, I_neg, I_le_t, I_le_f, I_lt_t, I_lt_f, I_eq_t, I_eq_f, I_inb', I_ix', Int.toNat_natCast, decide_true, decide_false, Bool.not_false, Bool.not_true, if_true, if_false, wi_eq, wi_eq', wi_ne, wi_row, wi_2, N0, N1, N2, N3, N4, N5, N6, N7, N8, N9, N10, N11, N12, N13, N14, N15, N16, N17, N18, N19, N20, N21, N22, N23, N24, N25, N26, N27, N28, N29, N30, N31, N32, N33, N34, N35, N36, N37, N38, N39, N40, N41, N42, N43, N45, N48, N57, N59, N88, N89, N97, N99, N120, N121, N122, N179, N200, N255, N300, N400, N880, N900, N999, N1019, N50000000, N100000000, N1000000000, N2147483647, N2147483648, e5]
    exact e9
end FAULT
