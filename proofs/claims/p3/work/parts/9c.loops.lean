/-! PURE: the text: a word, a number, to its end, in step -/
def WD (bt : Nat → Int) (pl cur : Nat) : List Int := rl (fun i => bt (pl + i)) (min (cur - pl) 6)
theorem WD_s {bt : Nat → Int} {pl cur : Nat} (h : pl ≤ cur) (h6 : cur - pl < 6) : WD bt pl (cur + 1) = bt cur :: WD bt pl cur := by
  unfold WD
  rw [show min (cur + 1 - pl) 6 = (cur - pl) + 1 by omega, show min (cur - pl) 6 = cur - pl by omega]
  show bt (pl + (cur - pl)) :: _ = _
  rw [show pl + (cur - pl) = cur by omega]
theorem WD_m {bt : Nat → Int} {pl cur : Nat} (h6 : 6 ≤ cur - pl) : WD bt pl (cur + 1) = WD bt pl cur := by
  unfold WD
  rw [show min (cur + 1 - pl) 6 = 6 by omega, show min (cur - pl) 6 = 6 by omega]
theorem WD_e {bt : Nat → Int} {pl cur : Nat} (h6 : cur - pl ≤ 6) : WD bt pl cur = rl (fun i => bt (pl + i)) (cur - pl) := by
  unfold WD
  rw [show min (cur - pl) 6 = cur - pl by omega]
/-- where a word stands as it is read -/
def WS (σ τ : Wd) (N : Nat) (bt : Nat → Int) (pl cur : Nat) : Prop := (σ.1 1 5 = I (N : Int) ∧ σ.1 1 6 = I (cur : Int) ∧ σ.1 1 8 = I (pl : Int) ∧ σ.1 1 7 = I 1 ∧ σ.1 1 9 = I (w27 (WD bt pl cur)) ∧ σ.1 1 1 = I 0) ∧ (τ.1 102 28 = I (N : Int) ∧ τ.1 102 29 = I (cur : Int) ∧ τ.1 102 31 = I (pl : Int) ∧ τ.1 102 33 = I 0 ∧ τ.2.1 102 34 = w64 (WD bt pl cur)) ∧ pl ≤ cur ∧ cur ≤ N ∧ (∀ i, i < cur - pl → 97 ≤ bt (pl + i) ∧ bt (pl + i) ≤ 122)
theorem word_end {N pl cur : Nat} {bt : Nat → Int} {σ τ : Wd} (hN : N ≤ 900) (hW : WS σ τ N bt pl cur) : ∃ (σ' τ' : Wd) (k : Int) (l : List Int), f_X5_stepOver_121 (I 6) σ = some (0, σ') ∧ (if ((τ.1 102 29) - (τ.1 102 31)) ≤ (6 : Int32) then (f_X7_nextWord_91 (2 : Int32) τ) else (f_X7_nextWord_91 (0 : Int32) τ)) = some (0, τ') ∧ TK σ' τ' N bt pl k l 0 ∧ CF σ σ' ∧ RX τ τ' := by
  obtain ⟨⟨c5, c6, c8, c7, c9, c1⟩, ⟨e28, e29, e31, e33, e34⟩, h1, h2, h3⟩ := hW
  by_cases c : cur - pl ≤ 6
  · rw [WD_e c] at c9 e34
    refine ⟨σ, wi τ 102 30 (I 2), 1, rl (fun i => bt (pl + i)) (cur - pl), ?_, ?_, ⟨cur, ⟨h1, h2, fun q => by omega⟩, ⟨c5, c6, c7, c8, c1⟩, ⟨by simp (disch := omega) only [wi_eq, wi_eq', wi_ne, wi_row, wi_2]; exact e28, by simp (disch := omega) only [wi_eq, wi_eq', wi_ne, wi_row, wi_2]; exact e31, by simp (disch := omega) only [wi_eq, wi_eq', wi_ne, wi_row, wi_2]; exact e33, fun _ => by simp (disch := omega) only [wi_eq, wi_eq', wi_ne, wi_row, wi_2]; exact e29⟩, Or.inr (Or.inl ⟨rfl, by simp (disch := omega) only [wi_eq, wi_eq', wi_ne, wi_row, wi_2], rfl, c, rl_ltr _ h3, c9, e34⟩)⟩, CFr, RXw (by omega)⟩
    · unfold f_X5_stepOver_121 f_X5_stepOver_139
      simp (disch := omega) only [gd_t, bd_s, nm_W, nm_I, I_add, I_sub, I_mul, I_neg, I_le_t, I_le_f, I_lt_t, I_lt_f, I_eq_t, I_eq_f, I_inb', I_ix', Int.toNat_natCast, decide_true, decide_false, Bool.not_false, Bool.not_true, if_true, if_false, wi_eq, wi_eq', wi_ne, wi_row, wi_2, N0, N1, N2, N3, N4, N5, N6, N7, N8, N9, N10, N11, N12, N13, N14, N15, N16, N17, N18, N19, N20, N21, N22, N23, N24, N25, N26, N27, N28, N29, N30, N31, N32, N33, N34, N35, N36, N37, N38, N39, N40, N41, N42, N43, N45, N48, N57, N59, N88, N89, N97, N99, N120, N121, N122, N179, N200, N255, N300, N400, N880, N900, N999, N1019, N50000000, N100000000, N1000000000, N2147483647, N2147483648, c6, c8]
    · unfold f_X7_nextWord_91
      simp (disch := omega) only [gd_t, bd_s, nm_W, nm_I, I_add, I_sub, I_mul, I_neg, I_le_t, I_le_f, I_lt_t, I_lt_f, I_eq_t, I_eq_f, I_inb', I_ix', Int.toNat_natCast, decide_true, decide_false, Bool.not_false, Bool.not_true, if_true, if_false, wi_eq, wi_eq', wi_ne, wi_row, wi_2, N0, N1, N2, N3, N4, N5, N6, N7, N8, N9, N10, N11, N12, N13, N14, N15, N16, N17, N18, N19, N20, N21, N22, N23, N24, N25, N26, N27, N28, N29, N30, N31, N32, N33, N34, N35, N36, N37, N38, N39, N40, N41, N42, N43, N45, N48, N57, N59, N88, N89, N97, N99, N120, N121, N122, N179, N200, N255, N300, N400, N880, N900, N999, N1019, N50000000, N100000000, N1000000000, N2147483647, N2147483648, e29, e31]
  · refine ⟨wi σ 1 7 (I 5), wi τ 102 30 (I 0), 5, [], ?_, ?_, ⟨cur, ⟨h1, h2, fun q => by omega⟩, ⟨by simp (disch := omega) only [wi_eq, wi_eq', wi_ne, wi_row, wi_2]; exact c5, by simp (disch := omega) only [wi_eq, wi_eq', wi_ne, wi_row, wi_2]; exact c6, by simp (disch := omega) only [wi_eq, wi_eq', wi_ne, wi_row, wi_2], by simp (disch := omega) only [wi_eq, wi_eq', wi_ne, wi_row, wi_2]; exact c8, by simp (disch := omega) only [wi_eq, wi_eq', wi_ne, wi_row, wi_2]; exact c1⟩, ⟨by simp (disch := omega) only [wi_eq, wi_eq', wi_ne, wi_row, wi_2]; exact e28, by simp (disch := omega) only [wi_eq, wi_eq', wi_ne, wi_row, wi_2]; exact e31, by simp (disch := omega) only [wi_eq, wi_eq', wi_ne, wi_row, wi_2]; exact e33, fun q => absurd rfl q⟩, Or.inr (Or.inr (Or.inr (Or.inr (Or.inr ⟨rfl, by simp (disch := omega) only [wi_eq, wi_eq', wi_ne, wi_row, wi_2]⟩))))⟩, CFw, RXw (by omega)⟩
    · unfold f_X5_stepOver_121 f_X5_stepOver_139
      simp (disch := omega) only [gd_t, bd_s, nm_W, nm_I, I_add, I_sub, I_mul, I_neg, I_le_t, I_le_f, I_lt_t, I_lt_f, I_eq_t, I_eq_f, I_inb', I_ix', Int.toNat_natCast, decide_true, decide_false, Bool.not_false, Bool.not_true, if_true, if_false, wi_eq, wi_eq', wi_ne, wi_row, wi_2, N0, N1, N2, N3, N4, N5, N6, N7, N8, N9, N10, N11, N12, N13, N14, N15, N16, N17, N18, N19, N20, N21, N22, N23, N24, N25, N26, N27, N28, N29, N30, N31, N32, N33, N34, N35, N36, N37, N38, N39, N40, N41, N42, N43, N45, N48, N57, N59, N88, N89, N97, N99, N120, N121, N122, N179, N200, N255, N300, N400, N880, N900, N999, N1019, N50000000, N100000000, N1000000000, N2147483647, N2147483648, c6, c8]
    · unfold f_X7_nextWord_91
      simp (disch := omega) only [gd_t, bd_s, nm_W, nm_I, I_add, I_sub, I_mul, I_neg, I_le_t, I_le_f, I_lt_t, I_lt_f, I_eq_t, I_eq_f, I_inb', I_ix', Int.toNat_natCast, decide_true, decide_false, Bool.not_false, Bool.not_true, if_true, if_false, wi_eq, wi_eq', wi_ne, wi_row, wi_2, N0, N1, N2, N3, N4, N5, N6, N7, N8, N9, N10, N11, N12, N13, N14, N15, N16, N17, N18, N19, N20, N21, N22, N23, N24, N25, N26, N27, N28, N29, N30, N31, N32, N33, N34, N35, N36, N37, N38, N39, N40, N41, N42, N43, N45, N48, N57, N59, N88, N89, N97, N99, N120, N121, N122, N179, N200, N255, N300, N400, N880, N900, N999, N1019, N50000000, N100000000, N1000000000, N2147483647, N2147483648, e29, e31]
theorem word_ok {N pl : Nat} {bt : Nat → Int} : ∀ (r cur n n' : Nat) (σ τ : Wd), cur + r = N → r < n → r < n' → BY σ τ N bt → WS σ τ N bt pl cur →
    ∃ (σ' τ' : Wd) (k : Int) (l : List Int), f_X5_stepOver_34 n (I 97) (I 122) (I 6) (I 27) (I 96) σ = some (0, σ') ∧ f_X7_nextWord_5 n' τ = some (0, τ') ∧ TK σ' τ' N bt pl k l 0 ∧ CF σ σ' ∧ RX τ τ'
  | 0, cur, n + 1, n' + 1, σ, τ, hr, _, _, hB, hW => by
    have hN := hB.1
    have en : cur = N := by omega
    subst en
    obtain ⟨σ', τ', k, l, q1, q2, q3⟩ := word_end hN hW
    obtain ⟨⟨c5, c6, c8, c7, c9, c1⟩, ⟨e28, e29, e31, e33, e34⟩, h1, h2, h3⟩ := hW
    refine ⟨σ', τ', k, l, ?_, ?_, q3⟩
    · rw [← q1, f_X5_stepOver_34]
      dsimp only
      rw [if_pos (by rw [c5, c6]; exact Int32.le_refl _)]
    · rw [← q2, f_X7_nextWord_5]
      dsimp only
      rw [show f_X7_byteAt (τ.1 102 29) τ = some (I (-1), τ) by rw [e29]; exact rByteE hN e28, bd_s, show f_X7_in (I (-1)) (97 : Int32) (122 : Int32) τ = some (I 0, τ) from rIn0 (z := -1) (lo := 97) (hi := 122) (by unfold R; omega) (by unfold R; omega) (by unfold R; omega) (by omega), bd_s, if_pos (show I 0 = (0 : Int32) from rfl)]
  | r + 1, cur, n + 1, n' + 1, σ, τ, hr, hn1, hn2, hB, hW => by
    have hN := hB.1
    have hW0 := hW
    obtain ⟨⟨c5, c6, c8, c7, c9, c1⟩, ⟨e28, e29, e31, e33, e34⟩, h1, h2, h3⟩ := hW
    obtain ⟨b1, b2, b3, b4⟩ := hB.2 cur (by omega)
    obtain ⟨b, hbb⟩ : ∃ b, b = bt cur := ⟨_, rfl⟩
    rw [← hbb] at b1 b2 b3 b4
    have eb := rByte hN e28 (show cur < N by omega) b2 b3 b4
    by_cases c : 97 ≤ b ∧ b ≤ 122
    · rw [show b % 256 = b by omega] at eb
      have i1 := rIn1 (σ := τ) (z := b) (lo := 97) (hi := 122) (by unfold R; omega) (by unfold R; omega) (by unfold R; omega) c
      have h3' : ∀ i, i < cur + 1 - pl → 97 ≤ bt (pl + i) ∧ bt (pl + i) ≤ 122 := fun i hi => by
        by_cases ci : i < cur - pl
        · exact h3 i ci
        · rw [show pl + i = cur by omega, ← hbb]; exact c
      by_cases c6' : 6 ≤ cur - pl
      · obtain ⟨σ', τ', k, l, q1, q2, q3, q4, q5⟩ := word_ok r (cur + 1) n n' (wi σ 1 6 (I ((cur : Int) + 1))) (wi τ 102 29 (I ((cur : Int) + 1))) (by omega) (by omega) (by omega) (BY_f hB CGw (RXw (by omega)))
          ⟨⟨by simp (disch := omega) only [wi_eq, wi_eq', wi_ne, wi_row, wi_2]; exact c5, by simp (disch := omega) only [wi_eq, wi_eq', wi_ne, wi_row, wi_2]; rfl, by simp (disch := omega) only [wi_eq, wi_eq', wi_ne, wi_row, wi_2]; exact c8, by simp (disch := omega) only [wi_eq, wi_eq', wi_ne, wi_row, wi_2]; exact c7, by simp (disch := omega) only [wi_eq, wi_eq', wi_ne, wi_row, wi_2]; rw [WD_m c6']; exact c9, by simp (disch := omega) only [wi_eq, wi_eq', wi_ne, wi_row, wi_2]; exact c1⟩, ⟨by simp (disch := omega) only [wi_eq, wi_eq', wi_ne, wi_row, wi_2]; exact e28, by simp (disch := omega) only [wi_eq, wi_eq', wi_ne, wi_row, wi_2]; rfl, by simp (disch := omega) only [wi_eq, wi_eq', wi_ne, wi_row, wi_2]; exact e31, by simp (disch := omega) only [wi_eq, wi_eq', wi_ne, wi_row, wi_2]; exact e33, by simp (disch := omega) only [wi_eq, wi_eq', wi_ne, wi_row, wi_2]; rw [WD_m c6']; exact e34⟩, by omega, by omega, h3'⟩
        refine ⟨σ', τ', k, l, ?_, ?_, q3, CFt CFw q4, RXt (RXw (by omega)) q5⟩
        · rw [← q1, f_X5_stepOver_34]
          clear hB hW0 h3 h3'
          simp (disch := omega) only [gd_t, bd_s, nm_W, nm_I, I_add, I_sub, I_mul, I_neg, I_le_t, I_le_f, I_lt_t, I_lt_f, I_eq_t, I_eq_f, I_inb', I_ix', Int.toNat_natCast, decide_true, decide_false, Bool.not_false, Bool.not_true, if_true, if_false, wi_eq, wi_eq', wi_ne, wi_row, wi_2, N0, N1, N2, N3, N4, N5, N6, N7, N8, N9, N10, N11, N12, N13, N14, N15, N16, N17, N18, N19, N20, N21, N22, N23, N24, N25, N26, N27, N28, N29, N30, N31, N32, N33, N34, N35, N36, N37, N38, N39, N40, N41, N42, N43, N45, N48, N57, N59, N88, N89, N97, N99, N120, N121, N122, N179, N200, N255, N300, N400, N880, N900, N999, N1019, N50000000, N100000000, N1000000000, N2147483647, N2147483648, c5, c6, b1, c8, f_X5_stepOver_108]
        · rw [← q2, f_X7_nextWord_5]
          clear hB hW0 h3 h3'
          simp (disch := omega) only [gd_t, bd_s, nm_W, nm_I, I_add, I_sub, I_mul, I_neg, I_le_t, I_le_f, I_lt_t, I_lt_f, I_eq_t, I_eq_f, I_inb', I_ix', Int.toNat_natCast, decide_true, decide_false, Bool.not_false, Bool.not_true, if_true, if_false, wi_eq, wi_eq', wi_ne, wi_row, wi_2, N0, N1, N2, N3, N4, N5, N6, N7, N8, N9, N10, N11, N12, N13, N14, N15, N16, N17, N18, N19, N20, N21, N22, N23, N24, N25, N26, N27, N28, N29, N30, N31, N32, N33, N34, N35, N36, N37, N38, N39, N40, N41, N42, N43, N45, N48, N57, N59, N88, N89, N97, N99, N120, N121, N122, N179, N200, N255, N300, N400, N880, N900, N999, N1019, N50000000, N100000000, N1000000000, N2147483647, N2147483648, e29, eb, i1, e31, f_X7_nextWord_58]
      · have ew := WD_s (bt := bt) h1 (show cur - pl < 6 by omega)
        rw [← hbb] at ew
        have e8 : ((I 8).toInt64 &&& 63 : Int64) = 8 := by decide
        obtain ⟨σ', τ', k, l, q1, q2, q3, q4, q5⟩ := word_ok r (cur + 1) n n' (wi (wi σ 1 9 (I (w27 (WD bt pl cur) * 27 + b - 96))) 1 6 (I ((cur : Int) + 1))) (wi (wl τ 102 34 ((w64 (WD bt pl cur) <<< (8 : Int64)) ||| (I b).toInt64)) 102 29 (I ((cur : Int) + 1))) (by omega) (by omega) (by omega) (BY_f hB (CGt CGw CGw) (RXt RXl (RXw (by omega))))
          ⟨⟨by simp (disch := omega) only [wi_eq, wi_eq', wi_ne, wi_row, wi_2]; exact c5, by simp (disch := omega) only [wi_eq, wi_eq', wi_ne, wi_row, wi_2]; rfl, by simp (disch := omega) only [wi_eq, wi_eq', wi_ne, wi_row, wi_2]; exact c8, by simp (disch := omega) only [wi_eq, wi_eq', wi_ne, wi_row, wi_2]; exact c7, by simp (disch := omega) only [wi_eq, wi_eq', wi_ne, wi_row, wi_2]; rw [ew]; show _ = I (w27 (WD bt pl cur) * 27 + (b - 96)); rw [Int.add_sub_assoc], by simp (disch := omega) only [wi_eq, wi_eq', wi_ne, wi_row, wi_2]; exact c1⟩, ⟨by simp (disch := omega) only [wi_eq, wi_eq', wi_ne, wi_row, wi_2]; exact e28, by simp (disch := omega) only [wi_eq, wi_eq', wi_ne, wi_row, wi_2]; rfl, by simp (disch := omega) only [wi_eq, wi_eq', wi_ne, wi_row, wi_2]; exact e31, by simp (disch := omega) only [wi_eq, wi_eq', wi_ne, wi_row, wi_2]; exact e33, by rw [wi_2, wl_eq, ew]; rfl⟩, by omega, by omega, h3'⟩
        refine ⟨σ', τ', k, l, ?_, ?_, q3, CFt (CFt CFw CFw) q4, RXt (RXt RXl (RXw (by omega))) q5⟩
        · rw [← q1, f_X5_stepOver_34]
          clear hB hW0 h3 h3'
          simp (disch := omega) only [gd_t, bd_s, nm_W, nm_I, I_add, I_sub, I_mul, I_neg, I_le_t, I_le_f, I_lt_t, I_lt_f, I_eq_t, I_eq_f, I_inb', I_ix', Int.toNat_natCast, decide_true, decide_false, Bool.not_false, Bool.not_true, if_true, if_false, wi_eq, wi_eq', wi_ne, wi_row, wi_2, N0, N1, N2, N3, N4, N5, N6, N7, N8, N9, N10, N11, N12, N13, N14, N15, N16, N17, N18, N19, N20, N21, N22, N23, N24, N25, N26, N27, N28, N29, N30, N31, N32, N33, N34, N35, N36, N37, N38, N39, N40, N41, N42, N43, N45, N48, N57, N59, N88, N89, N97, N99, N120, N121, N122, N179, N200, N255, N300, N400, N880, N900, N999, N1019, N50000000, N100000000, N1000000000, N2147483647, N2147483648, c5, c6, b1, c8, c9, f_X5_stepOver_108]
        · rw [← q2, f_X7_nextWord_5]
          clear hB hW0 h3 h3'
          simp (disch := omega) only [gd_t, bd_s, nm_W, nm_I, I_add, I_sub, I_mul, I_neg, I_le_t, I_le_f, I_lt_t, I_lt_f, I_eq_t, I_eq_f, I_inb', I_ix', Int.toNat_natCast, decide_true, decide_false, Bool.not_false, Bool.not_true, if_true, if_false, wi_eq, wi_eq', wi_ne, wi_row, wi_2, N0, N1, N2, N3, N4, N5, N6, N7, N8, N9, N10, N11, N12, N13, N14, N15, N16, N17, N18, N19, N20, N21, N22, N23, N24, N25, N26, N27, N28, N29, N30, N31, N32, N33, N34, N35, N36, N37, N38, N39, N40, N41, N42, N43, N45, N48, N57, N59, N88, N89, N97, N99, N120, N121, N122, N179, N200, N255, N300, N400, N880, N900, N999, N1019, N50000000, N100000000, N1000000000, N2147483647, N2147483648, e29, eb, i1, e31, e34, e8, f_X7_nextWord_58, wl_1]
    · obtain ⟨σ', τ', k, l, q1, q2, q3⟩ := word_end hN hW0
      have i0 := rIn0 (σ := τ) (z := b % 256) (lo := 97) (hi := 122) (by unfold R; omega) (by unfold R; omega) (by unfold R; omega) (by omega)
      have nle : ¬ σ.1 1 5 ≤ σ.1 1 6 := by rw [c5, c6, I_le (by unfold R; omega) (by unfold R; omega)]; omega
      have g1 : inb (σ.1 1 6) 900 = true := by rw [c6]; exact inI (by omega) (by decide)
      have g2 : ix (σ.1 1 6) = cur := by rw [c6]; exact ixI (by omega)
      refine ⟨σ', τ', k, l, ?_, ?_, q3⟩
      · rw [← q1, f_X5_stepOver_34]
        dsimp only
        rw [if_neg nle, g1, gd_t, g2, b1]
        by_cases cl : b < 97
        · rw [if_pos (show I b < I 97 by rw [I_lt (by unfold R; omega) (by unfold R; omega)]; exact cl)]
        · rw [if_neg (show ¬ I b < I 97 by rw [I_lt (by unfold R; omega) (by unfold R; omega)]; exact cl), gd_t, if_pos (show I 122 < I b by rw [I_lt (by unfold R; omega) (by unfold R; omega)]; omega)]
      · rw [← q2, f_X7_nextWord_5]
        dsimp only
        rw [show f_X7_byteAt (τ.1 102 29) τ = some (I (b % 256), τ) by rw [e29]; exact eb, bd_s, show f_X7_in (I (b % 256)) (97 : Int32) (122 : Int32) τ = some (I 0, τ) from i0, bd_s, if_pos (show I 0 = (0 : Int32) from rfl)]
/-- where a number stands as it is read -/
def NS (σ τ : Wd) (N : Nat) (pl cur : Nat) (v : Int) : Prop := (σ.1 1 5 = I (N : Int) ∧ σ.1 1 6 = I (cur : Int) ∧ σ.1 1 8 = I (pl : Int) ∧ σ.1 1 7 = I 2 ∧ σ.1 1 9 = I v ∧ σ.1 1 1 = I 0) ∧ (τ.1 102 28 = I (N : Int) ∧ τ.1 102 29 = I (cur : Int) ∧ τ.1 102 31 = I (pl : Int) ∧ τ.1 102 33 = I 0 ∧ τ.1 102 32 = I v) ∧ pl ≤ cur ∧ cur ≤ N ∧ 0 ≤ v ∧ v ≤ 999 ∧ (cur - pl = 0 → v = 0) ∧ (cur - pl = 1 → v ≤ 9) ∧ (cur - pl = 2 → v ≤ 99)
theorem num_end {N pl cur : Nat} {bt : Nat → Int} {σ τ : Wd} {v : Int} (hN : N ≤ 900) (hW : NS σ τ N pl cur v) : ∃ (σ' τ' : Wd) (k n : Int), f_X5_stepOver_121 (I 3) σ = some (0, σ') ∧ (if ((τ.1 102 29) - (τ.1 102 31)) ≤ (3 : Int32) then (f_X7_nextWhole_91 (3 : Int32) τ) else (f_X7_nextWhole_91 (0 : Int32) τ)) = some (0, τ') ∧ TK σ' τ' N bt pl k [] n ∧ CF σ σ' ∧ RX τ τ' := by
  obtain ⟨⟨c5, c6, c8, c7, c9, c1⟩, ⟨e28, e29, e31, e33, e32⟩, h1, h2, h3, h4, -⟩ := hW
  by_cases c : cur - pl ≤ 3
  · refine ⟨σ, wi τ 102 30 (I 3), 2, v, ?_, ?_, ⟨cur, ⟨h1, h2, fun q => by omega⟩, ⟨c5, c6, c7, c8, c1⟩, ⟨by simp (disch := omega) only [wi_eq, wi_eq', wi_ne, wi_row, wi_2]; exact e28, by simp (disch := omega) only [wi_eq, wi_eq', wi_ne, wi_row, wi_2]; exact e31, by simp (disch := omega) only [wi_eq, wi_eq', wi_ne, wi_row, wi_2]; exact e33, fun _ => by simp (disch := omega) only [wi_eq, wi_eq', wi_ne, wi_row, wi_2]; exact e29⟩, Or.inr (Or.inr (Or.inl ⟨rfl, by simp (disch := omega) only [wi_eq, wi_eq', wi_ne, wi_row, wi_2], h3, h4, c9, by simp (disch := omega) only [wi_eq, wi_eq', wi_ne, wi_row, wi_2]; exact e32⟩))⟩, CFr, RXw (by omega)⟩
    · unfold f_X5_stepOver_121 f_X5_stepOver_139
      simp (disch := omega) only [gd_t, bd_s, nm_W, nm_I, I_add, I_sub, I_mul, I_neg, I_le_t, I_le_f, I_lt_t, I_lt_f, I_eq_t, I_eq_f, I_inb', I_ix', Int.toNat_natCast, decide_true, decide_false, Bool.not_false, Bool.not_true, if_true, if_false, wi_eq, wi_eq', wi_ne, wi_row, wi_2, N0, N1, N2, N3, N4, N5, N6, N7, N8, N9, N10, N11, N12, N13, N14, N15, N16, N17, N18, N19, N20, N21, N22, N23, N24, N25, N26, N27, N28, N29, N30, N31, N32, N33, N34, N35, N36, N37, N38, N39, N40, N41, N42, N43, N45, N48, N57, N59, N88, N89, N97, N99, N120, N121, N122, N179, N200, N255, N300, N400, N880, N900, N999, N1019, N50000000, N100000000, N1000000000, N2147483647, N2147483648, c6, c8]
    · unfold f_X7_nextWhole_91
      simp (disch := omega) only [gd_t, bd_s, nm_W, nm_I, I_add, I_sub, I_mul, I_neg, I_le_t, I_le_f, I_lt_t, I_lt_f, I_eq_t, I_eq_f, I_inb', I_ix', Int.toNat_natCast, decide_true, decide_false, Bool.not_false, Bool.not_true, if_true, if_false, wi_eq, wi_eq', wi_ne, wi_row, wi_2, N0, N1, N2, N3, N4, N5, N6, N7, N8, N9, N10, N11, N12, N13, N14, N15, N16, N17, N18, N19, N20, N21, N22, N23, N24, N25, N26, N27, N28, N29, N30, N31, N32, N33, N34, N35, N36, N37, N38, N39, N40, N41, N42, N43, N45, N48, N57, N59, N88, N89, N97, N99, N120, N121, N122, N179, N200, N255, N300, N400, N880, N900, N999, N1019, N50000000, N100000000, N1000000000, N2147483647, N2147483648, e29, e31]
  · refine ⟨wi σ 1 7 (I 5), wi τ 102 30 (I 0), 5, 0, ?_, ?_, ⟨cur, ⟨h1, h2, fun q => by omega⟩, ⟨by simp (disch := omega) only [wi_eq, wi_eq', wi_ne, wi_row, wi_2]; exact c5, by simp (disch := omega) only [wi_eq, wi_eq', wi_ne, wi_row, wi_2]; exact c6, by simp (disch := omega) only [wi_eq, wi_eq', wi_ne, wi_row, wi_2], by simp (disch := omega) only [wi_eq, wi_eq', wi_ne, wi_row, wi_2]; exact c8, by simp (disch := omega) only [wi_eq, wi_eq', wi_ne, wi_row, wi_2]; exact c1⟩, ⟨by simp (disch := omega) only [wi_eq, wi_eq', wi_ne, wi_row, wi_2]; exact e28, by simp (disch := omega) only [wi_eq, wi_eq', wi_ne, wi_row, wi_2]; exact e31, by simp (disch := omega) only [wi_eq, wi_eq', wi_ne, wi_row, wi_2]; exact e33, fun q => absurd rfl q⟩, Or.inr (Or.inr (Or.inr (Or.inr (Or.inr ⟨rfl, by simp (disch := omega) only [wi_eq, wi_eq', wi_ne, wi_row, wi_2]⟩))))⟩, CFw, RXw (by omega)⟩
    · unfold f_X5_stepOver_121 f_X5_stepOver_139
      simp (disch := omega) only [gd_t, bd_s, nm_W, nm_I, I_add, I_sub, I_mul, I_neg, I_le_t, I_le_f, I_lt_t, I_lt_f, I_eq_t, I_eq_f, I_inb', I_ix', Int.toNat_natCast, decide_true, decide_false, Bool.not_false, Bool.not_true, if_true, if_false, wi_eq, wi_eq', wi_ne, wi_row, wi_2, N0, N1, N2, N3, N4, N5, N6, N7, N8, N9, N10, N11, N12, N13, N14, N15, N16, N17, N18, N19, N20, N21, N22, N23, N24, N25, N26, N27, N28, N29, N30, N31, N32, N33, N34, N35, N36, N37, N38, N39, N40, N41, N42, N43, N45, N48, N57, N59, N88, N89, N97, N99, N120, N121, N122, N179, N200, N255, N300, N400, N880, N900, N999, N1019, N50000000, N100000000, N1000000000, N2147483647, N2147483648, c6, c8]
    · unfold f_X7_nextWhole_91
      simp (disch := omega) only [gd_t, bd_s, nm_W, nm_I, I_add, I_sub, I_mul, I_neg, I_le_t, I_le_f, I_lt_t, I_lt_f, I_eq_t, I_eq_f, I_inb', I_ix', Int.toNat_natCast, decide_true, decide_false, Bool.not_false, Bool.not_true, if_true, if_false, wi_eq, wi_eq', wi_ne, wi_row, wi_2, N0, N1, N2, N3, N4, N5, N6, N7, N8, N9, N10, N11, N12, N13, N14, N15, N16, N17, N18, N19, N20, N21, N22, N23, N24, N25, N26, N27, N28, N29, N30, N31, N32, N33, N34, N35, N36, N37, N38, N39, N40, N41, N42, N43, N45, N48, N57, N59, N88, N89, N97, N99, N120, N121, N122, N179, N200, N255, N300, N400, N880, N900, N999, N1019, N50000000, N100000000, N1000000000, N2147483647, N2147483648, e29, e31]
theorem num_ok {N pl : Nat} {bt : Nat → Int} : ∀ (r cur n n' : Nat) (σ τ : Wd) (v : Int), cur + r = N → r < n → r < n' → BY σ τ N bt → NS σ τ N pl cur v →
    ∃ (σ' τ' : Wd) (k m : Int), f_X5_stepOver_34 n (I 48) (I 57) (I 3) (I 10) (I 48) σ = some (0, σ') ∧ f_X7_nextWhole_5 n' τ = some (0, τ') ∧ TK σ' τ' N bt pl k [] m ∧ CF σ σ' ∧ RX τ τ'
  | 0, cur, n + 1, n' + 1, σ, τ, v, hr, _, _, hB, hW => by
    have hN := hB.1
    have en : cur = N := by omega
    subst en
    obtain ⟨σ', τ', k, l, q1, q2, q3⟩ := num_end (bt := bt) hN hW
    obtain ⟨⟨c5, c6, c8, c7, c9, c1⟩, ⟨e28, e29, e31, e33, e32⟩, -⟩ := hW
    refine ⟨σ', τ', k, l, ?_, ?_, q3⟩
    · rw [← q1, f_X5_stepOver_34]
      dsimp only
      rw [if_pos (by rw [c5, c6]; exact Int32.le_refl _)]
    · rw [← q2, f_X7_nextWhole_5]
      dsimp only
      rw [show f_X7_byteAt (τ.1 102 29) τ = some (I (-1), τ) by rw [e29]; exact rByteE hN e28, bd_s, show f_X7_in (I (-1)) (48 : Int32) (57 : Int32) τ = some (I 0, τ) from rIn0 (z := -1) (lo := 48) (hi := 57) (by unfold R; omega) (by unfold R; omega) (by unfold R; omega) (by omega), bd_s, if_pos (show I 0 = (0 : Int32) from rfl)]
  | r + 1, cur, n + 1, n' + 1, σ, τ, v, hr, hn1, hn2, hB, hW => by
    have hN := hB.1
    have hW0 := hW
    obtain ⟨⟨c5, c6, c8, c7, c9, c1⟩, ⟨e28, e29, e31, e33, e32⟩, h1, h2, h3, h4, h5, h6, h7⟩ := hW
    obtain ⟨b1, b2, b3, b4⟩ := hB.2 cur (by omega)
    obtain ⟨b, hbb⟩ : ∃ b, b = bt cur := ⟨_, rfl⟩
    rw [← hbb] at b1 b2 b3 b4
    have eb := rByte hN e28 (show cur < N by omega) b2 b3 b4
    by_cases c : 48 ≤ b ∧ b ≤ 57
    · rw [show b % 256 = b by omega] at eb
      have i1 := rIn1 (σ := τ) (z := b) (lo := 48) (hi := 57) (by unfold R; omega) (by unfold R; omega) (by unfold R; omega) c
      by_cases c6' : 3 ≤ cur - pl
      · obtain ⟨σ', τ', k, l, q1, q2, q3, q4, q5⟩ := num_ok r (cur + 1) n n' (wi σ 1 6 (I ((cur : Int) + 1))) (wi τ 102 29 (I ((cur : Int) + 1))) v (by omega) (by omega) (by omega) (BY_f hB CGw (RXw (by omega)))
          ⟨⟨by simp (disch := omega) only [wi_eq, wi_eq', wi_ne, wi_row, wi_2]; exact c5, by simp (disch := omega) only [wi_eq, wi_eq', wi_ne, wi_row, wi_2]; rfl, by simp (disch := omega) only [wi_eq, wi_eq', wi_ne, wi_row, wi_2]; exact c8, by simp (disch := omega) only [wi_eq, wi_eq', wi_ne, wi_row, wi_2]; exact c7, by simp (disch := omega) only [wi_eq, wi_eq', wi_ne, wi_row, wi_2]; exact c9, by simp (disch := omega) only [wi_eq, wi_eq', wi_ne, wi_row, wi_2]; exact c1⟩, ⟨by simp (disch := omega) only [wi_eq, wi_eq', wi_ne, wi_row, wi_2]; exact e28, by simp (disch := omega) only [wi_eq, wi_eq', wi_ne, wi_row, wi_2]; rfl, by simp (disch := omega) only [wi_eq, wi_eq', wi_ne, wi_row, wi_2]; exact e31, by simp (disch := omega) only [wi_eq, wi_eq', wi_ne, wi_row, wi_2]; exact e33, by simp (disch := omega) only [wi_eq, wi_eq', wi_ne, wi_row, wi_2]; exact e32⟩, by omega, by omega, by omega, by omega, by omega, by omega, by omega⟩
        refine ⟨σ', τ', k, l, ?_, ?_, q3, CFt CFw q4, RXt (RXw (by omega)) q5⟩
        · rw [← q1, f_X5_stepOver_34]
          clear hB hW0
          simp (disch := omega) only [gd_t, bd_s, nm_W, nm_I, I_add, I_sub, I_mul, I_neg, I_le_t, I_le_f, I_lt_t, I_lt_f, I_eq_t, I_eq_f, I_inb', I_ix', Int.toNat_natCast, decide_true, decide_false, Bool.not_false, Bool.not_true, if_true, if_false, wi_eq, wi_eq', wi_ne, wi_row, wi_2, N0, N1, N2, N3, N4, N5, N6, N7, N8, N9, N10, N11, N12, N13, N14, N15, N16, N17, N18, N19, N20, N21, N22, N23, N24, N25, N26, N27, N28, N29, N30, N31, N32, N33, N34, N35, N36, N37, N38, N39, N40, N41, N42, N43, N45, N48, N57, N59, N88, N89, N97, N99, N120, N121, N122, N179, N200, N255, N300, N400, N880, N900, N999, N1019, N50000000, N100000000, N1000000000, N2147483647, N2147483648, c5, c6, b1, c8, f_X5_stepOver_108]
        · rw [← q2, f_X7_nextWhole_5]
          clear hB hW0
          simp (disch := omega) only [gd_t, bd_s, nm_W, nm_I, I_add, I_sub, I_mul, I_neg, I_le_t, I_le_f, I_lt_t, I_lt_f, I_eq_t, I_eq_f, I_inb', I_ix', Int.toNat_natCast, decide_true, decide_false, Bool.not_false, Bool.not_true, if_true, if_false, wi_eq, wi_eq', wi_ne, wi_row, wi_2, N0, N1, N2, N3, N4, N5, N6, N7, N8, N9, N10, N11, N12, N13, N14, N15, N16, N17, N18, N19, N20, N21, N22, N23, N24, N25, N26, N27, N28, N29, N30, N31, N32, N33, N34, N35, N36, N37, N38, N39, N40, N41, N42, N43, N45, N48, N57, N59, N88, N89, N97, N99, N120, N121, N122, N179, N200, N255, N300, N400, N880, N900, N999, N1019, N50000000, N100000000, N1000000000, N2147483647, N2147483648, e29, eb, i1, e31, f_X7_nextWhole_59]
      · obtain ⟨σ', τ', k, l, q1, q2, q3, q4, q5⟩ := num_ok r (cur + 1) n n' (wi (wi σ 1 9 (I (v * 10 + b - 48))) 1 6 (I ((cur : Int) + 1))) (wi (wi τ 102 32 (I (10 * v + b - 48))) 102 29 (I ((cur : Int) + 1))) (v * 10 + b - 48) (by omega) (by omega) (by omega) (BY_f hB (CGt CGw CGw) (RXt (RXw (by omega)) (RXw (by omega))))
          ⟨⟨by simp (disch := omega) only [wi_eq, wi_eq', wi_ne, wi_row, wi_2]; exact c5, by simp (disch := omega) only [wi_eq, wi_eq', wi_ne, wi_row, wi_2]; rfl, by simp (disch := omega) only [wi_eq, wi_eq', wi_ne, wi_row, wi_2]; exact c8, by simp (disch := omega) only [wi_eq, wi_eq', wi_ne, wi_row, wi_2]; exact c7, by simp (disch := omega) only [wi_eq, wi_eq', wi_ne, wi_row, wi_2], by simp (disch := omega) only [wi_eq, wi_eq', wi_ne, wi_row, wi_2]; exact c1⟩, ⟨by simp (disch := omega) only [wi_eq, wi_eq', wi_ne, wi_row, wi_2]; exact e28, by simp (disch := omega) only [wi_eq, wi_eq', wi_ne, wi_row, wi_2]; rfl, by simp (disch := omega) only [wi_eq, wi_eq', wi_ne, wi_row, wi_2]; exact e31, by simp (disch := omega) only [wi_eq, wi_eq', wi_ne, wi_row, wi_2]; exact e33, by simp (disch := omega) only [wi_eq, wi_eq', wi_ne, wi_row, wi_2]; rw [Int.mul_comm]⟩, by omega, by omega, by omega, by omega, by omega, by omega, by omega⟩
        refine ⟨σ', τ', k, l, ?_, ?_, q3, CFt (CFt CFw CFw) q4, RXt (RXt (RXw (by omega)) (RXw (by omega))) q5⟩
        · rw [← q1, f_X5_stepOver_34]
          clear hB hW0
          simp (disch := omega) only [gd_t, bd_s, nm_W, nm_I, I_add, I_sub, I_mul, I_neg, I_le_t, I_le_f, I_lt_t, I_lt_f, I_eq_t, I_eq_f, I_inb', I_ix', Int.toNat_natCast, decide_true, decide_false, Bool.not_false, Bool.not_true, if_true, if_false, wi_eq, wi_eq', wi_ne, wi_row, wi_2, N0, N1, N2, N3, N4, N5, N6, N7, N8, N9, N10, N11, N12, N13, N14, N15, N16, N17, N18, N19, N20, N21, N22, N23, N24, N25, N26, N27, N28, N29, N30, N31, N32, N33, N34, N35, N36, N37, N38, N39, N40, N41, N42, N43, N45, N48, N57, N59, N88, N89, N97, N99, N120, N121, N122, N179, N200, N255, N300, N400, N880, N900, N999, N1019, N50000000, N100000000, N1000000000, N2147483647, N2147483648, c5, c6, b1, c8, c9, f_X5_stepOver_108]
        · rw [← q2, f_X7_nextWhole_5]
          clear hB hW0
          simp (disch := omega) only [gd_t, bd_s, nm_W, nm_I, I_add, I_sub, I_mul, I_neg, I_le_t, I_le_f, I_lt_t, I_lt_f, I_eq_t, I_eq_f, I_inb', I_ix', Int.toNat_natCast, decide_true, decide_false, Bool.not_false, Bool.not_true, if_true, if_false, wi_eq, wi_eq', wi_ne, wi_row, wi_2, N0, N1, N2, N3, N4, N5, N6, N7, N8, N9, N10, N11, N12, N13, N14, N15, N16, N17, N18, N19, N20, N21, N22, N23, N24, N25, N26, N27, N28, N29, N30, N31, N32, N33, N34, N35, N36, N37, N38, N39, N40, N41, N42, N43, N45, N48, N57, N59, N88, N89, N97, N99, N120, N121, N122, N179, N200, N255, N300, N400, N880, N900, N999, N1019, N50000000, N100000000, N1000000000, N2147483647, N2147483648, e29, eb, i1, e31, e32, f_X7_nextWhole_59]
    · obtain ⟨σ', τ', k, l, q1, q2, q3⟩ := num_end (bt := bt) hN hW0
      have i0 := rIn0 (σ := τ) (z := b % 256) (lo := 48) (hi := 57) (by unfold R; omega) (by unfold R; omega) (by unfold R; omega) (by omega)
      have nle : ¬ σ.1 1 5 ≤ σ.1 1 6 := by rw [c5, c6, I_le (by unfold R; omega) (by unfold R; omega)]; omega
      have g1 : inb (σ.1 1 6) 900 = true := by rw [c6]; exact inI (by omega) (by decide)
      have g2 : ix (σ.1 1 6) = cur := by rw [c6]; exact ixI (by omega)
      refine ⟨σ', τ', k, l, ?_, ?_, q3⟩
      · rw [← q1, f_X5_stepOver_34]
        dsimp only
        rw [if_neg nle, g1, gd_t, g2, b1]
        by_cases cl : b < 48
        · rw [if_pos (show I b < I 48 by rw [I_lt (by unfold R; omega) (by unfold R; omega)]; exact cl)]
        · rw [if_neg (show ¬ I b < I 48 by rw [I_lt (by unfold R; omega) (by unfold R; omega)]; exact cl), gd_t, if_pos (show I 57 < I b by rw [I_lt (by unfold R; omega) (by unfold R; omega)]; omega)]
      · rw [← q2, f_X7_nextWhole_5]
        dsimp only
        rw [show f_X7_byteAt (τ.1 102 29) τ = some (I (b % 256), τ) by rw [e29]; exact eb, bd_s, show f_X7_in (I (b % 256)) (48 : Int32) (57 : Int32) τ = some (I 0, τ) from i0, bd_s, if_pos (show I 0 = (0 : Int32) from rfl)]
