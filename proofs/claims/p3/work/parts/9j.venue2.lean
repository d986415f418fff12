/-! PURE: the text: a venue's line, walked -/
theorem wI {a : Nat} (h : a < 5) : inb (I (a : Int)) 5 = true ∧ ix (I (a : Int)) = a := ⟨inI h (by decide), ixI (by omega)⟩
set_option maxHeartbeats 2000000 in
theorem ven49_ok {m N pl V E : Nat} {bt : Nat → Int} {σ τ : Wd} {k n W p L : Int} {l : List Int} {d : MD} {dl et : Nat → Int} (hm : 10 < m) (hB : BY σ τ N bt) (hT : TK σ τ N bt pl k l n) (hk : k = 1) (hV : V < 5) (hW : W ≠ 0) (hP : PRD m σ τ W p L V E d dl et) :
    (∃ (σ' τ' : Wd), vR1 m (I (V : Int)) σ = some (I 0, σ') ∧ f_X7_readVenueLine_49 τ = some (0, τ') ∧ BD σ' τ' ∧ LC m σ σ' ∧ LF τ τ')
    ∨ (∃ (σ' τ' : Wd) (pl' : Nat) (k' : Int) (l' : List Int) (n' : Int) (d' : MD) (dl' : Nat → Int), vR1 m (I (V : Int)) σ = some (I 1, σ') ∧ f_X7_readVenueLine_49 τ = some (0, τ') ∧ PRD m σ' τ' W p L (V + 1) E d' dl' et ∧ TK σ' τ' N bt pl' k' l' n' ∧ pl ≤ pl' ∧ LC m σ σ' ∧ LF τ τ') := by
  obtain ⟨iv, xv⟩ := wI hV
  obtain ⟨t1, t2, t3, t4⟩ := TK_1 hT hk
  have h3 := hP.2.2.1.2.1
  have h19 := hP.2.2.1.2.2
  have lc3 : LC m σ (wi σ 3 V (I (w27 l))) := ⟨fun k _ h _ => wi_row h, rfl⟩
  unfold vR1
  rw [iv, gd_t, nm_W, xv, t3]
  have hB0 : BY (wi σ 3 V (I (w27 l))) τ N bt := BYw (m := m) hB (by decide)
  obtain ⟨σ1, τ1, pl1, k1, l1, n1, a1, a2, a3, a4, a5, a6⟩ := step_ok hB0 (TKw (j := 3) (i := V) (x := I (w27 l)) hT (by decide)) (by omega)
  have hB1 := BY_f hB0 (CFG a5) a6
  rw [a1, bd_s]
  rcases kind_ok hB1 a3 with ⟨σ2, τ2, b1, b2, b3, b4, b5⟩ | ⟨σ2, τ2, v2, pl2, k2, l2, n2, b1, b2, b3, b3', b4, b5, b6, b7, b8⟩
  · obtain ⟨f, pf, -, -, hF⟩ := id b3
    have e4 := ft_part (w := 9) (lo := I 1) (hi := I 20) (by decide) hF
    have e5 := ft_fee hF
    have e6 := ft_part (w := 11) (lo := I 0) (hi := I 300) (by decide) hF
    have e7 := ft_part (w := 12) (lo := I 1) (hi := I 9) (by decide) hF
    obtain ⟨f1, f2, f3, f4, f5⟩ := hF
    refine Or.inl ⟨σ2, τ2, ?_, ?_, b3, LCt lc3 (LCt (CGL (CFG a5)) (CGL b4)), LFt (RXL a6) (RXL b5)⟩
    · rw [b1, bd_s, if_pos (show I 0 = (0 : Int32) from rfl)]
      rfl
    · unfold f_X7_readVenueLine_49
      simp (disch := omega) only [gd_t, bd_s, nm_W, nm_I, I_add, I_sub, I_mul, I_neg, I_le_t, I_le_f, I_lt_t, I_lt_f, I_eq_t, I_eq_f, I_inb', I_ix', Int.toNat_natCast, decide_true, decide_false, Bool.not_false, Bool.not_true, if_true, if_false, wi_eq, wi_eq', wi_ne, wi_row, wi_2, N0, N1, N2, N3, N4, N5, N6, N7, N8, N9, N10, N11, N12, N13, N14, N15, N16, N17, N18, N19, N20, N21, N22, N23, N24, N25, N26, N27, N28, N29, N30, N31, N32, N33, N34, N35, N36, N37, N38, N39, N40, N41, N42, N43, N45, N48, N57, N59, N88, N89, N97, N99, N120, N121, N122, N179, N200, N255, N300, N400, N880, N900, N999, N1019, N50000000, N100000000, N1000000000, N2147483647, N2147483648, a2, b2, e4, e5, e6, e7, f1]
  · rw [b1, bd_s, if_neg (show ¬ I 1 = (0 : Int32) by decide)]
    unfold vR2
    rw [iv, gd_t, nm_W, xv, b4]
    have hB2 : BY (wi σ2 (m + 1) V (I v2)) τ2 N bt := BYw (m := m) (BY_f hB1 b7 b8) (by omega)
    rcases part_ok (w := 9) (lo := 1) (hi := 20) (K0 := f_X5_readVenue_87 m) (K1 := vR3 m (I (V : Int))) (fun _ => rfl) (by decide) hB2 (TKw (j := m + 1) (i := V) (x := I v2) b5 (by omega)) (by omega) (by omega) with ⟨σ3, τ3, c1, c2, c3, c4, c5⟩ | ⟨σ3, τ3, v3, pl3, k3, l3, n3, c1, c2, c3, c3', c4, c5, c6, c7, c8⟩
    · obtain ⟨f, pf, -, -, hF⟩ := id c3
      have e5 := ft_fee hF
      have e6 := ft_part (w := 11) (lo := I 0) (hi := I 300) (by decide) hF
      have e7 := ft_part (w := 12) (lo := I 1) (hi := I 9) (by decide) hF
      obtain ⟨f1, f2, f3, f4, f5⟩ := hF
      refine Or.inl ⟨σ3, τ3, c1, ?_, c3, LCt lc3 (LCt (CGL (CFG a5)) (LCt (CGL b7) (LCt (LCw (by omega)) (CGL c4)))), LFt (RXL a6) (LFt (RXL b8) (RXL c5))⟩
      unfold f_X7_readVenueLine_49
      simp (disch := omega) only [gd_t, bd_s, nm_W, nm_I, I_add, I_sub, I_mul, I_neg, I_le_t, I_le_f, I_lt_t, I_lt_f, I_eq_t, I_eq_f, I_inb', I_ix', Int.toNat_natCast, decide_true, decide_false, Bool.not_false, Bool.not_true, if_true, if_false, wi_eq, wi_eq', wi_ne, wi_row, wi_2, N0, N1, N2, N3, N4, N5, N6, N7, N8, N9, N10, N11, N12, N13, N14, N15, N16, N17, N18, N19, N20, N21, N22, N23, N24, N25, N26, N27, N28, N29, N30, N31, N32, N33, N34, N35, N36, N37, N38, N39, N40, N41, N42, N43, N45, N48, N57, N59, N88, N89, N97, N99, N120, N121, N122, N179, N200, N255, N300, N400, N880, N900, N999, N1019, N50000000, N100000000, N1000000000, N2147483647, N2147483648, a2, b2, c2, e5, e6, e7, f1]
    · rw [c1]
      unfold vR3
      rw [iv, gd_t, nm_W, xv, c4]
      have hB3 : BY (wi σ3 (m + 2) V (I v3)) τ3 N bt := BYw (m := m) (BY_f hB2 c7 c8) (by omega)
      rcases fee_ok hB3 (TKw (j := m + 2) (i := V) (x := I v3) c5 (by omega)) with ⟨σ4, τ4, y4, d1, d2, d3, d4, d5⟩ | ⟨σ4, τ4, v4, pl4, k4, l4, n4, d1, d2, d3, d3', d4, d5, d6, d7, d8⟩
      · obtain ⟨f, pf, -, -, hF⟩ := id d3
        have e6 := ft_part (w := 11) (lo := I 0) (hi := I 300) (by decide) hF
        have e7 := ft_part (w := 12) (lo := I 1) (hi := I 9) (by decide) hF
        obtain ⟨f1, f2, f3, f4, f5⟩ := hF
        refine Or.inl ⟨σ4, τ4, ?_, ?_, d3, LCt lc3 (LCt (CGL (CFG a5)) (LCt (CGL b7) (LCt (LCw (by omega)) (LCt (CGL c7) (LCt (LCw (by omega)) (CGL d4)))))), LFt (RXL a6) (LFt (RXL b8) (LFt (RXL c8) (RXL d5)))⟩
        · rw [d1, bd_s, if_pos (show I 0 = (0 : Int32) from rfl)]
          rfl
        · unfold f_X7_readVenueLine_49
          simp (disch := omega) only [gd_t, bd_s, nm_W, nm_I, I_add, I_sub, I_mul, I_neg, I_le_t, I_le_f, I_lt_t, I_lt_f, I_eq_t, I_eq_f, I_inb', I_ix', Int.toNat_natCast, decide_true, decide_false, Bool.not_false, Bool.not_true, if_true, if_false, wi_eq, wi_eq', wi_ne, wi_row, wi_2, N0, N1, N2, N3, N4, N5, N6, N7, N8, N9, N10, N11, N12, N13, N14, N15, N16, N17, N18, N19, N20, N21, N22, N23, N24, N25, N26, N27, N28, N29, N30, N31, N32, N33, N34, N35, N36, N37, N38, N39, N40, N41, N42, N43, N45, N48, N57, N59, N88, N89, N97, N99, N120, N121, N122, N179, N200, N255, N300, N400, N880, N900, N999, N1019, N50000000, N100000000, N1000000000, N2147483647, N2147483648, a2, b2, c2, d2, e6, e7, f1]
      · rw [d1, bd_s, if_neg (show ¬ I 1 = (0 : Int32) by decide)]
        unfold vR4
        rw [iv, gd_t, nm_W, xv, d4]
        have hB4 : BY (wi σ4 (m + 3) V (I v4)) τ4 N bt := BYw (m := m) (BY_f hB3 d7 d8) (by omega)
        rcases part_ok (w := 11) (lo := 0) (hi := 300) (K0 := f_X5_readVenue_138 m) (K1 := vR5 m (I (V : Int))) (fun _ => rfl) (by decide) hB4 (TKw (j := m + 3) (i := V) (x := I v4) d5 (by omega)) (by omega) (by omega) with ⟨σ5, τ5, g1, g2, g3, g4, g5⟩ | ⟨σ5, τ5, v5, pl5, k5, l5, n5, g1, g2, g3, g3', g4, g5, g6, g7, g8⟩
        · obtain ⟨f, pf, -, -, hF⟩ := id g3
          have e7 := ft_part (w := 12) (lo := I 1) (hi := I 9) (by decide) hF
          obtain ⟨f1, f2, f3, f4, f5⟩ := hF
          refine Or.inl ⟨σ5, τ5, g1, ?_, g3, LCt lc3 (LCt (CGL (CFG a5)) (LCt (CGL b7) (LCt (LCw (by omega)) (LCt (CGL c7) (LCt (LCw (by omega)) (LCt (CGL d7) (LCt (LCw (by omega)) (CGL g4)))))))), LFt (RXL a6) (LFt (RXL b8) (LFt (RXL c8) (LFt (RXL d8) (RXL g5))))⟩
          unfold f_X7_readVenueLine_49
          simp (disch := omega) only [gd_t, bd_s, nm_W, nm_I, I_add, I_sub, I_mul, I_neg, I_le_t, I_le_f, I_lt_t, I_lt_f, I_eq_t, I_eq_f, I_inb', I_ix', Int.toNat_natCast, decide_true, decide_false, Bool.not_false, Bool.not_true, if_true, if_false, wi_eq, wi_eq', wi_ne, wi_row, wi_2, N0, N1, N2, N3, N4, N5, N6, N7, N8, N9, N10, N11, N12, N13, N14, N15, N16, N17, N18, N19, N20, N21, N22, N23, N24, N25, N26, N27, N28, N29, N30, N31, N32, N33, N34, N35, N36, N37, N38, N39, N40, N41, N42, N43, N45, N48, N57, N59, N88, N89, N97, N99, N120, N121, N122, N179, N200, N255, N300, N400, N880, N900, N999, N1019, N50000000, N100000000, N1000000000, N2147483647, N2147483648, a2, b2, c2, d2, g2, e7, f1]
        · rw [g1]
          unfold vR5
          rw [iv, gd_t, nm_W, xv, g4]
          have hB5 : BY (wi σ5 (m + 4) V (I v5)) τ5 N bt := BYw (m := m) (BY_f hB4 g7 g8) (by omega)
          rcases part_ok (w := 12) (lo := 1) (hi := 9) (K0 := f_X5_readVenue_169 m) (K1 := vR6 m (I (V : Int))) (fun _ => rfl) (by decide) hB5 (TKw (j := m + 4) (i := V) (x := I v5) g5 (by omega)) (by omega) (by omega) with ⟨σ6, τ6, i1, i2, i3, i4, i5⟩ | ⟨σ6, τ6, v6, pl6, k6, l6, n6, i1, i2, i3, i3', i4, i5, i6, i7, i8⟩
          · obtain ⟨f, pf, -, -, hF⟩ := id i3
            obtain ⟨f1, f2, f3, f4, f5⟩ := hF
            refine Or.inl ⟨σ6, τ6, i1, ?_, i3, LCt lc3 (LCt (CGL (CFG a5)) (LCt (CGL b7) (LCt (LCw (by omega)) (LCt (CGL c7) (LCt (LCw (by omega)) (LCt (CGL d7) (LCt (LCw (by omega)) (LCt (CGL g7) (LCt (LCw (by omega)) (CGL i4)))))))))), LFt (RXL a6) (LFt (RXL b8) (LFt (RXL c8) (LFt (RXL d8) (LFt (RXL g8) (RXL i5)))))⟩
            unfold f_X7_readVenueLine_49
            simp (disch := omega) only [gd_t, bd_s, nm_W, nm_I, I_add, I_sub, I_mul, I_neg, I_le_t, I_le_f, I_lt_t, I_lt_f, I_eq_t, I_eq_f, I_inb', I_ix', Int.toNat_natCast, decide_true, decide_false, Bool.not_false, Bool.not_true, if_true, if_false, wi_eq, wi_eq', wi_ne, wi_row, wi_2, N0, N1, N2, N3, N4, N5, N6, N7, N8, N9, N10, N11, N12, N13, N14, N15, N16, N17, N18, N19, N20, N21, N22, N23, N24, N25, N26, N27, N28, N29, N30, N31, N32, N33, N34, N35, N36, N37, N38, N39, N40, N41, N42, N43, N45, N48, N57, N59, N88, N89, N97, N99, N120, N121, N122, N179, N200, N255, N300, N400, N880, N900, N999, N1019, N50000000, N100000000, N1000000000, N2147483647, N2147483648, a2, b2, c2, d2, g2, i2, f1]
          · have keyR : RX τ τ6 := RXt a6 (RXt b8 (RXt c8 (RXt d8 (RXt g8 i8))))
            have keyV : VC m V σ (wi (wi σ6 (m + 5) V (I v6)) m 3 (I ((V : Int) + 1))) := VCt (VCw (Or.inl rfl)) (VCt (VCg (CFG a5)) (VCt (VCg b7) (VCt (VCw (by omega)) (VCt (VCg c7) (VCt (VCw (by omega)) (VCt (VCg d7) (VCt (VCw (by omega)) (VCt (VCg g7) (VCt (VCw (by omega)) (VCt (VCg i7) (VCt (VCw (by omega)) VCm)))))))))))
            have keyL : LC m σ (wi (wi σ6 (m + 5) V (I v6)) m 3 (I ((V : Int) + 1))) := LCt lc3 (LCt (CGL (CFG a5)) (LCt (CGL b7) (LCt (LCw (by omega)) (LCt (CGL c7) (LCt (LCw (by omega)) (LCt (CGL d7) (LCt (LCw (by omega)) (LCt (CGL g7) (LCt (LCw (by omega)) (LCt (CGL i7) (LCt (LCw (by omega)) (LCw (by omega)))))))))))))
            have e3 : σ6.1 3 V = I (w27 l) := by
              rw [i7.1 3 (by decide), wi_row (by omega), g7.1 3 (by decide), wi_row (by omega), d7.1 3 (by decide), wi_row (by omega), c7.1 3 (by decide), wi_row (by omega), b7.1 3 (by decide), a5.1 3 (by decide), wi_eq]
            have e1 : σ6.1 (m + 1) V = I v2 := by
              rw [i7.1 _ (by omega), wi_row (by omega), g7.1 _ (by omega), wi_row (by omega), d7.1 _ (by omega), wi_row (by omega), c7.1 _ (by omega), wi_eq]
            have e2 : σ6.1 (m + 2) V = I v3 := by
              rw [i7.1 _ (by omega), wi_row (by omega), g7.1 _ (by omega), wi_row (by omega), d7.1 _ (by omega), wi_eq]
            have e4 : σ6.1 (m + 3) V = I v4 := by
              rw [i7.1 _ (by omega), wi_row (by omega), g7.1 _ (by omega), wi_eq]
            have e5 : σ6.1 (m + 4) V = I v5 := by
              rw [i7.1 _ (by omega), wi_eq]
            have em : σ6.1 m 3 = I (V : Int) := by
              rw [i7.1 m (by omega), wi_row (by omega), g7.1 m (by omega), wi_row (by omega), d7.1 m (by omega), wi_row (by omega), c7.1 m (by omega), wi_row (by omega), b7.1 m (by omega), a5.1 m (by omega), wi_row (by omega)]
              exact h3
            have g33 := (TK_33 i5).1
            have fw := vF_w hV a2 b2 c2 d2 g2 i2 g33 (by rw [keyR.2.1 19 (by decide)]; exact h19)
            rw [t4] at fw
            obtain ⟨z1, z2⟩ := ven_good hm hV hW hP t1 t2 keyV keyR i5 e3 e1 e2 e4 e5 ⟨b3, b3'⟩ ⟨c3, c3'⟩ ⟨d3, d3'⟩ ⟨g3, g3'⟩ ⟨i3, i3'⟩
            refine Or.inr ⟨_, _, pl6, k6, l6, n6, _, _, ?_, fw, z1, z2, by omega, keyL, ?_⟩
            · rw [i1]
              unfold vR6
              rw [iv, gd_t, nm_W, xv, i4, nm_W, wi_row (show m ≠ m + 5 by omega), em, show I (V : Int) + (1 : Int32) = I ((V : Int) + 1) from I_add _ 1]
              rfl
            · unfold vF
              exact LFt (RXL keyR) (LFt LFl (LFt (LFw (by omega)) (LFt (LFw (by omega)) (LFt (LFw (by omega)) (LFt (LFw (by omega)) (LFt (LFw (by omega)) (LFt (LFw (by omega)) (LFv (by omega)))))))))
theorem venue_ok {m N pl V E : Nat} {bt : Nat → Int} {σ τ : Wd} {k n W p L : Int} {l : List Int} {d : MD} {dl et : Nat → Int} (hm : 10 < m) (hB : BY σ τ N bt) (hT : TK σ τ N bt pl k l n) (hk : k = 1) (hP : PRD m σ τ W p L V E d dl et) :
    (∃ (σ' τ' : Wd), (if (5 : Int32) ≤ (σ.1 m 3) then (f_X5_readLine_39 m (0 : Int32) σ) else (f_X5_readLine_39 m (1 : Int32) σ)) = some (I 0, σ') ∧ f_X7_readVenueLine τ = some (0, τ') ∧ BD σ' τ' ∧ LC m σ σ' ∧ LF τ τ')
    ∨ (∃ (σ' τ' : Wd) (pl' : Nat) (k' : Int) (l' : List Int) (n' : Int) (d' : MD) (dl' : Nat → Int) (V' : Nat), (if (5 : Int32) ≤ (σ.1 m 3) then (f_X5_readLine_39 m (0 : Int32) σ) else (f_X5_readLine_39 m (1 : Int32) σ)) = some (I 1, σ') ∧ f_X7_readVenueLine τ = some (0, τ') ∧ PRD m σ' τ' W p L V' E d' dl' et ∧ TK σ' τ' N bt pl' k' l' n' ∧ pl ≤ pl' ∧ LC m σ σ' ∧ LF τ τ') := by
  have V5 := hP.2.2.1.1.1
  have h3 := hP.2.2.1.2.1
  have h19 := hP.2.2.1.2.2
  obtain ⟨x, hx, hxv⟩ : ∃ x : Int, (x = 0 ∨ x = 1) ∧ ((x = 1) ↔ V = 5) := by
    by_cases c : V = 5
    · exact ⟨1, Or.inr rfl, by omega⟩
    · exact ⟨0, Or.inl rfl, by omega⟩
  have ec : (if (5 : Int32) ≤ (σ.1 m 3) then (f_X5_readLine_39 m (0 : Int32) σ) else (f_X5_readLine_39 m (1 : Int32) σ)) = f_X5_readLine_39 m (I (1 - x)) σ := by
    rw [h3]
    by_cases c : V = 5
    · rw [hxv.mpr c, if_pos (show (5 : Int32) ≤ I (V : Int) by rw [c]; decide)]
      rfl
    · have x0 : x = 0 := by omega
      rw [x0, if_neg (show ¬ (5 : Int32) ≤ I (V : Int) by show ¬ I 5 ≤ I (V : Int); rw [I_le (by unfold R; omega) (by unfold R; omega)]; omega)]
      rfl
  have er : f_X7_readVenueLine τ = f_X7_readVenueLine_14 (I x) τ := by
    unfold f_X7_readVenueLine
    rw [h19]
    by_cases c : V = 5
    · rw [hxv.mpr c, if_pos (show I (V : Int) = (5 : Int32) by rw [c]; rfl)]
      rfl
    · have x0 : x = 0 := by omega
      rw [x0, if_neg (show ¬ I (V : Int) = (5 : Int32) by show ¬ I (V : Int) = I 5; rw [I_eq (by unfold R; omega) (by unfold R; omega)]; omega)]
      rfl
  rw [ec, er]
  unfold f_X5_readLine_39 f_X7_readVenueLine_14
  rcases opens_ok hm hx hB hT hk hP.1.1 hP.1.2.1 ⟨hP.1.2.2.1, hP.1.2.2.2.1⟩ with ⟨σ1, τ1, a1, a2, a3, a4, a5⟩ | ⟨σ1, τ1, pl1, k1, l1, n1, x0, W0, a1, a2, a3, a4, a5, a6⟩
  · obtain ⟨f, pf, -, -, hF⟩ := id a3
    have e0 := ft_name hF
    have e1 := ft_flaw (c := 1) hF
    have e49 := ft_ven49 hF
    have f1 := hF.1
    have f2 := hF.2.1
    have f3 := hF.2.2.1
    refine Or.inl ⟨σ1, τ1, ?_, ?_, a3, CGL a4, RXL a5⟩
    · rw [a1, bd_s, if_pos (show I 0 = (0 : Int32) from rfl)]
      rfl
    · rw [a2, bd_s, e0, bd_s, if_pos (show I 0 = (0 : Int32) from rfl), e1, bd_s]
      unfold f_X7_readVenueLine_29
      rw [f1, if_neg (show ¬ I f = (0 : Int32) by show ¬ I f = I 0; rw [I_eq (by unfold R; omega) (by unfold R; omega)]; omega), e49]
  · have hV : V < 5 := by omega
    have hB1 := BY_f hB a5 a6
    have hP1 := PRD_f hm hP a5 a6
    obtain ⟨nm, hN⟩ := hP1.2.2.2.1
    have c3 : σ1.1 m 3 = I (V : Int) := hP1.2.2.1.2.1
    have c19 : τ1.1 102 19 = I (V : Int) := hP1.2.2.1.2.2
    have g33 := (TK_33 a3).1
    rw [a1, bd_s, if_neg (show ¬ I 1 = (0 : Int32) by decide), a2, bd_s, c3, vR_eq]
    obtain ⟨n1', n2'⟩ := name_ok hB1 a3
    rw [n1', n2', bd_s, bd_s]
    cases cn : nmb k1 l1 with
    | false =>
      obtain ⟨σ2, τ2, q1, q2, q3, q4, q5⟩ := bad_ok (c := 1) a3 (by omega)
      obtain ⟨f, pf, -, -, hF⟩ := id q3
      have e49 := ft_ven49 hF
      have f1 := hF.1
      have f2 := hF.2.1
      have f3 := hF.2.2.1
      refine Or.inl ⟨σ2, τ2, ?_, ?_, q3, LCt (CGL a5) (CGL q4), LFt (RXL a6) (RXL q5)⟩
      · rw [bn_f, if_pos (show I 0 = (0 : Int32) from rfl), q1, bd_s]
        rfl
      · rw [bn_f, if_pos (show I 0 = (0 : Int32) from rfl), show f_X7_flaw (1 : Int32) τ1 = some (0, τ2) from q2, bd_s]
        unfold f_X7_readVenueLine_29
        rw [f1, if_neg (show ¬ I f = (0 : Int32) by show ¬ I f = I 0; rw [I_eq (by unfold R; omega) (by unfold R; omega)]; omega), e49]
    | true =>
      obtain ⟨t1, t2, t3, t4⟩ := TK_1 a3 (nmb_1 cn)
      rw [bn_t, if_neg (show ¬ I 1 = (0 : Int32) by decide), if_neg (show ¬ I 1 = (0 : Int32) by decide), t3, c3]
      unfold f_X7_readVenueLine_29
      rw [g33, if_pos (show I 0 = (0 : Int32) from rfl)]
      have fd := find_ok hN t1 t2 t4 c19 V 0 FU FU 0 rfl (by omega) (by show _ < 6000; omega) (by show _ < 6000; omega)
      rcases fd with ⟨p1, p2⟩ | ⟨u, hu, p1, p2⟩
      · rw [show f_X5_venueNamed (I (w27 l1)) (I (V : Int)) σ1 = some (I (-1), σ1) from p1, bd_s, if_pos rfl, show f_X7_venueBy τ1 = some (I (-1), τ1) from p2, bd_s, if_pos (show I (-1) = (-1 : Int32) from rfl)]
        rcases ven49_ok hm hB1 a3 (nmb_1 cn) hV W0 hP1 with ⟨σ2, τ2, q1, q2, q3, q4, q5⟩ | ⟨σ2, τ2, pl2, k2, l2, n2, d2, dl2, q1, q2, q3, q4, q5, q6, q7⟩
        · refine Or.inl ⟨σ2, τ2, ?_, q2, q3, LCt (CGL a5) q4, LFt (RXL a6) q5⟩
          rw [q1, bd_s, if_pos (show I 0 = (0 : Int32) from rfl)]
          rfl
        · refine Or.inr ⟨σ2, τ2, pl2, k2, l2, n2, d2, dl2, V + 1, ?_, q2, q3, q4, by omega, LCt (CGL a5) q6, LFt (RXL a6) q7⟩
          rw [q1, bd_s, if_neg (show ¬ I 1 = (0 : Int32) by decide)]
          rfl
      · obtain ⟨σ2, τ2, q1, q2, q3, q4, q5⟩ := bad_ok (c := 3) a3 (by omega)
        obtain ⟨f, pf, -, -, hF⟩ := id q3
        have e49 := ft_ven49 hF
        have ne : ¬ I (u : Int) = I (-1) := by rw [I_eq (by unfold R; omega) (by unfold R; omega)]; omega
        refine Or.inl ⟨σ2, τ2, ?_, ?_, q3, LCt (CGL a5) (CGL q4), LFt (RXL a6) (RXL q5)⟩
        · rw [show f_X5_venueNamed (I (w27 l1)) (I (V : Int)) σ1 = some (I (u : Int), σ1) from p1, bd_s, if_neg ne, q1, bd_s]
          rfl
        · rw [show f_X7_venueBy τ1 = some (I (u : Int), τ1) from p2, bd_s, if_neg (show ¬ I (u : Int) = (-1 : Int32) from ne), show f_X7_flaw (3 : Int32) τ1 = some (0, τ2) from q2, bd_s, e49]
