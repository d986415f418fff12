/-! PURE: the text: an event's line, whole; any line; all lines -/
theorem event_ok {m N pl V E : Nat} {bt : Nat → Int} {σ τ : Wd} {k n W p L : Int} {l : List Int} {d : MD} {dl et : Nat → Int} (hm : 10 < m) (hB : BY σ τ N bt) (hT : TK σ τ N bt pl k l n) (hk : k = 1) (hP : PRD m σ τ W p L V E d dl et) :
    (∃ (σ' τ' : Wd), (if (10 : Int32) ≤ (σ.1 m 4) then (f_X5_readLine_120 m (0 : Int32) σ) else (f_X5_readLine_120 m (1 : Int32) σ)) = some (I 0, σ') ∧ f_X7_readEventLine τ = some (0, τ') ∧ BD σ' τ' ∧ LC m σ σ' ∧ LF τ τ')
    ∨ (∃ (σ' τ' : Wd) (pl' : Nat) (k' : Int) (l' : List Int) (n' : Int) (et' : Nat → Int) (E' : Nat), (if (10 : Int32) ≤ (σ.1 m 4) then (f_X5_readLine_120 m (0 : Int32) σ) else (f_X5_readLine_120 m (1 : Int32) σ)) = some (I 1, σ') ∧ f_X7_readEventLine τ = some (0, τ') ∧ PRD m σ' τ' W p L V E' d dl et' ∧ TK σ' τ' N bt pl' k' l' n' ∧ pl ≤ pl' ∧ LC m σ σ' ∧ LF τ τ') := by
  have E10 := hP.2.2.2.2.2.2.1
  have h4 := hP.2.2.2.2.2.2.2.1
  have h20 := hP.2.2.2.2.2.2.2.2.1
  obtain ⟨x, hx, hxv⟩ : ∃ x : Int, (x = 0 ∨ x = 1) ∧ ((x = 1) ↔ E = 10) := by
    by_cases c : E = 10
    · exact ⟨1, Or.inr rfl, by omega⟩
    · exact ⟨0, Or.inl rfl, by omega⟩
  have ec : (if (10 : Int32) ≤ (σ.1 m 4) then (f_X5_readLine_120 m (0 : Int32) σ) else (f_X5_readLine_120 m (1 : Int32) σ)) = f_X5_readLine_120 m (I (1 - x)) σ := by
    rw [h4]
    by_cases c : E = 10
    · rw [hxv.mpr c, if_pos (show (10 : Int32) ≤ I (E : Int) by rw [c]; decide)]
      rfl
    · have x0 : x = 0 := by omega
      rw [x0, if_neg (show ¬ (10 : Int32) ≤ I (E : Int) by show ¬ I 10 ≤ I (E : Int); rw [I_le (by unfold R; omega) (by unfold R; omega)]; omega)]
      rfl
  have er : f_X7_readEventLine τ = f_X7_readEventLine_15 (I x) τ := by
    unfold f_X7_readEventLine
    rw [h20]
    by_cases c : E = 10
    · rw [hxv.mpr c, if_pos (show I (E : Int) = (10 : Int32) by rw [c]; rfl)]
      rfl
    · have x0 : x = 0 := by omega
      rw [x0, if_neg (show ¬ I (E : Int) = (10 : Int32) by show ¬ I (E : Int) = I 10; rw [I_eq (by unfold R; omega) (by unfold R; omega)]; omega)]
      rfl
  rw [ec, er]
  unfold f_X5_readLine_120 f_X7_readEventLine_15
  rcases opens_ok hm hx hB hT hk hP.1.1 hP.1.2.1 ⟨hP.1.2.2.1, hP.1.2.2.2.1⟩ with ⟨σ1, τ1, a1, a2, a3, a4, a5⟩ | ⟨σ1, τ1, pl1, k1, l1, n1, x0, W0, a1, a2, a3, a4, a5, a6⟩
  · obtain ⟨f, pf, -, -, hF⟩ := id a3
    have e20 : τ1.1 102 20 = I (E : Int) := by rw [a5.2.1 20 (by decide)]; exact h20
    refine Or.inl ⟨σ1, τ1, ?_, ?_, a3, CGL a4, RXL a5⟩
    · rw [a1, bd_s, if_pos (show I 0 = (0 : Int32) from rfl)]
      rfl
    · have e43 : ∀ s1 : Int32, f_X7_readEventLine_43 s1 τ1 = some (0, τ1) := fun s1 => ft_ev43 hF
      by_cases c : E = 0
      · have ec : (E : Int) = 0 := by omega
        simp (disch := omega) only [gd_t, bd_s, nm_W, nm_I, I_add, I_sub, I_mul, I_neg, I_le_t, I_le_f, I_lt_t, I_lt_f, I_eq_t, I_eq_f, I_inb', I_ix', Int.toNat_natCast, decide_true, decide_false, Bool.not_false, Bool.not_true, if_true, if_false, wi_eq, wi_eq', wi_ne, wi_row, wi_2, N0, N1, N2, N3, N4, N5, N6, N7, N8, N9, N10, N11, N12, N13, N14, N15, N16, N17, N18, N19, N20, N21, N22, N23, N24, N25, N26, N27, N28, N29, N30, N31, N32, N33, N34, N35, N36, N37, N38, N39, N40, N41, N42, N43, N45, N48, N57, N59, N88, N89, N97, N99, N120, N121, N122, N179, N200, N255, N300, N400, N880, N900, N999, N1019, N50000000, N100000000, N1000000000, N2147483647, N2147483648, a2, e20, e43]
      · simp (disch := omega) only [gd_t, bd_s, nm_W, nm_I, I_add, I_sub, I_mul, I_neg, I_le_t, I_le_f, I_lt_t, I_lt_f, I_eq_t, I_eq_f, I_inb', I_ix', Int.toNat_natCast, decide_true, decide_false, Bool.not_false, Bool.not_true, if_true, if_false, wi_eq, wi_eq', wi_ne, wi_row, wi_2, N0, N1, N2, N3, N4, N5, N6, N7, N8, N9, N10, N11, N12, N13, N14, N15, N16, N17, N18, N19, N20, N21, N22, N23, N24, N25, N26, N27, N28, N29, N30, N31, N32, N33, N34, N35, N36, N37, N38, N39, N40, N41, N42, N43, N45, N48, N57, N59, N88, N89, N97, N99, N120, N121, N122, N179, N200, N255, N300, N400, N880, N900, N999, N1019, N50000000, N100000000, N1000000000, N2147483647, N2147483648, a2, e20, e43]
  · have hE : E < 10 := by omega
    have hB1 := BY_f hB a5 a6
    have hP1 := PRD_f hm hP a5 a6
    have c4 : σ1.1 m 4 = I (E : Int) := hP1.2.2.2.2.2.2.2.1
    have c20 : τ1.1 102 20 = I (E : Int) := hP1.2.2.2.2.2.2.2.2.1
    have key : ∃ lo : Int, 1 ≤ lo ∧ lo ≤ 200 ∧ (∀ i, i + 1 = E → et i ≤ lo) ∧ f_X5_readEvent m (σ1.1 m 4) σ1 = f_X5_readEvent_16 m (I (E : Int)) (I lo) σ1 ∧ (if (τ1.1 102 20) = 0 then (f_X7_readEventLine_43 (1 : Int32) τ1) else (gd (inb (((4 : Int32) * (τ1.1 102 20)) - (4 : Int32)) 40) ((f_X7_readEventLine_43 (τ1.1 108 (ix (((4 : Int32) * (τ1.1 102 20)) - (4 : Int32)))) τ1)))) = f_X7_readEventLine_43 (I lo) τ1 := by
      by_cases c : E = 0
      · refine ⟨1, by omega, by omega, fun i hi => by omega, ?_, ?_⟩
        · unfold f_X5_readEvent
          rw [c4, if_pos (show I (E : Int) ≤ (0 : Int32) by rw [c]; decide)]
          rfl
        · rw [c20, if_pos (show I (E : Int) = (0 : Int32) by rw [c]; rfl)]
          rfl
      · obtain ⟨j, rfl⟩ : ∃ j, E = j + 1 := ⟨E - 1, by omega⟩
        obtain ⟨-, -, -, -, -, -, -, y1, y2, y3, y4, -⟩ := hP1.2.2.2.2.2.2.2.2.2.1 j (by omega)
        refine ⟨et j, y1, y2, fun i hi => by rw [show i = j by omega]; exact Int.le_refl _, ?_, ?_⟩
        · have t1 : (((j + 1 : Nat) : Int) - 1).toNat = j := by omega
          unfold f_X5_readEvent
          clear hP hP1 hB hB1 hT ec er
          simp (disch := omega) only [gd_t, bd_s, nm_W, nm_I, I_add, I_sub, I_mul, I_neg, I_le_t, I_le_f, I_lt_t, I_lt_f, I_eq_t, I_eq_f, I_inb', I_ix', Int.toNat_natCast, decide_true, decide_false, Bool.not_false, Bool.not_true, if_true, if_false, wi_eq, wi_eq', wi_ne, wi_row, wi_2, N0, N1, N2, N3, N4, N5, N6, N7, N8, N9, N10, N11, N12, N13, N14, N15, N16, N17, N18, N19, N20, N21, N22, N23, N24, N25, N26, N27, N28, N29, N30, N31, N32, N33, N34, N35, N36, N37, N38, N39, N40, N41, N42, N43, N45, N48, N57, N59, N88, N89, N97, N99, N120, N121, N122, N179, N200, N255, N300, N400, N880, N900, N999, N1019, N50000000, N100000000, N1000000000, N2147483647, N2147483648, c4, t1, y3]
        · have t1 : ((4 : Int) * ((j + 1 : Nat) : Int) - 4).toNat = 4 * j := by omega
          clear hP hP1 hB hB1 hT ec er
          simp (disch := omega) only [gd_t, bd_s, nm_W, nm_I, I_add, I_sub, I_mul, I_neg, I_le_t, I_le_f, I_lt_t, I_lt_f, I_eq_t, I_eq_f, I_inb', I_ix', Int.toNat_natCast, decide_true, decide_false, Bool.not_false, Bool.not_true, if_true, if_false, wi_eq, wi_eq', wi_ne, wi_row, wi_2, N0, N1, N2, N3, N4, N5, N6, N7, N8, N9, N10, N11, N12, N13, N14, N15, N16, N17, N18, N19, N20, N21, N22, N23, N24, N25, N26, N27, N28, N29, N30, N31, N32, N33, N34, N35, N36, N37, N38, N39, N40, N41, N42, N43, N45, N48, N57, N59, N88, N89, N97, N99, N120, N121, N122, N179, N200, N255, N300, N400, N880, N900, N999, N1019, N50000000, N100000000, N1000000000, N2147483647, N2147483648, c20, t1, y4]
    obtain ⟨lo, o1, o2, o3, o4, o5⟩ := key
    rw [a1, bd_s, if_neg (show ¬ I 1 = (0 : Int32) by decide), a2, bd_s, o4, o5]
    rcases ev16_ok hm hB1 a3 hE W0 ⟨o1, o2⟩ o3 hP1 with ⟨σ2, τ2, q1, q2, q3, q4, q5⟩ | ⟨σ2, τ2, pl2, k2, l2, n2, et2, q1, q2, q3, q4, q5, q6, q7⟩
    · refine Or.inl ⟨σ2, τ2, ?_, q2, q3, LCt (CGL a5) q4, LFt (RXL a6) q5⟩
      rw [q1, bd_s, if_pos (show I 0 = (0 : Int32) from rfl)]
      rfl
    · refine Or.inr ⟨σ2, τ2, pl2, k2, l2, n2, et2, E + 1, ?_, q2, q3, q4, by omega, LCt (CGL a5) q6, LFt (RXL a6) q7⟩
      rw [q1, bd_s, if_neg (show ¬ I 1 = (0 : Int32) by decide)]
      rfl
theorem line_ok {m N pl V E : Nat} {bt : Nat → Int} {σ τ : Wd} {k n W p L : Int} {l : List Int} {d : MD} {dl et : Nat → Int} (hm : 10 < m) (hB : BY σ τ N bt) (hT : TK σ τ N bt pl k l n) (hP : PRD m σ τ W p L V E d dl et) :
    (∃ (σ' τ' : Wd), f_X5_readLine m σ = some (I 0, σ') ∧ f_X7_readLine τ = some (0, τ') ∧ BD σ' τ' ∧ LC m σ σ' ∧ LF τ τ')
    ∨ (∃ (σ' τ' : Wd) (pl' : Nat) (k' : Int) (l' : List Int) (n' W' p' L' : Int) (V' E' : Nat) (d' : MD) (dl' et' : Nat → Int), f_X5_readLine m σ = some (I 1, σ') ∧ f_X7_readLine τ = some (0, τ') ∧ PRD m σ' τ' W' p' L' V' E' d' dl' et' ∧ TK σ' τ' N bt pl' k' l' n' ∧ pl ≤ pl' ∧ LC m σ σ' ∧ LF τ τ') := by
  obtain ⟨a0, b0⟩ := isw_ok (w := 0) (by decide) hB hT
  obtain ⟨a1, b1⟩ := isw_ok (w := 1) (by decide) hB hT
  obtain ⟨a2, b2⟩ := isw_ok (w := 2) (by decide) hB hT
  obtain ⟨a3, b3⟩ := isw_ok (w := 3) (by decide) hB hT
  unfold f_X5_readLine f_X7_readLine
  rw [a0, b0, bd_s, bd_s]
  by_cases c0 : k = 1 ∧ l = lw 0
  · rw [decide_eq_true c0, bn_t, if_neg (show ¬ I 1 = (0 : Int32) by decide), if_neg (show ¬ I 1 = (0 : Int32) by decide)]
    rcases order_ok hm hB hT c0 hP with ⟨σ1, τ1, q1, q2, q3⟩ | ⟨σ1, τ1, pl1, k1, l1, n1, W1, p1, L1, q1, q2, q3⟩
    · exact Or.inl ⟨σ1, τ1, by rw [q1, bd_s]; rfl, by rw [q2, bd_s]; rfl, q3⟩
    · exact Or.inr ⟨σ1, τ1, pl1, k1, l1, n1, W1, p1, L1, V, E, d, dl, et, by rw [q1, bd_s]; rfl, by rw [q2, bd_s]; rfl, q3⟩
  · rw [decide_eq_false c0, bn_f, if_pos (show I 0 = (0 : Int32) from rfl), if_pos (show I 0 = (0 : Int32) from rfl), a1, b1, bd_s, bd_s]
    by_cases c1 : k = 1 ∧ l = lw 1
    · rw [decide_eq_true c1, bn_t, if_neg (show ¬ I 1 = (0 : Int32) by decide), if_neg (show ¬ I 1 = (0 : Int32) by decide)]
      rcases venue_ok hm hB hT c1.1 hP with ⟨σ1, τ1, q1, q2, q3⟩ | ⟨σ1, τ1, pl1, k1, l1, n1, d1, dl1, V1, q1, q2, q3⟩
      · exact Or.inl ⟨σ1, τ1, q1, by rw [q2, bd_s]; rfl, q3⟩
      · exact Or.inr ⟨σ1, τ1, pl1, k1, l1, n1, W, p, L, V1, E, d1, dl1, et, q1, by rw [q2, bd_s]; rfl, q3⟩
    · rw [decide_eq_false c1, bn_f, if_pos (show I 0 = (0 : Int32) from rfl), if_pos (show I 0 = (0 : Int32) from rfl), a2, b2, bd_s, bd_s]
      by_cases c2 : k = 1 ∧ l = lw 2
      · rw [decide_eq_true c2, bn_t, if_neg (show ¬ I 1 = (0 : Int32) by decide), if_neg (show ¬ I 1 = (0 : Int32) by decide)]
        rcases level_ok hm hB hT c2.1 hP with ⟨σ1, τ1, q1, q2, q3⟩ | ⟨σ1, τ1, pl1, k1, l1, n1, d1, q1, q2, q3⟩
        · exact Or.inl ⟨σ1, τ1, q1, by rw [q2, bd_s]; rfl, q3⟩
        · exact Or.inr ⟨σ1, τ1, pl1, k1, l1, n1, W, p, L, V, E, d1, dl, et, q1, by rw [q2, bd_s]; rfl, q3⟩
      · rw [decide_eq_false c2, bn_f, if_pos (show I 0 = (0 : Int32) from rfl), if_pos (show I 0 = (0 : Int32) from rfl), a3, b3, bd_s, bd_s]
        by_cases c3 : k = 1 ∧ l = lw 3
        · rw [decide_eq_true c3, bn_t, if_neg (show ¬ I 1 = (0 : Int32) by decide), if_neg (show ¬ I 1 = (0 : Int32) by decide)]
          rcases event_ok hm hB hT c3.1 hP with ⟨σ1, τ1, q1, q2, q3⟩ | ⟨σ1, τ1, pl1, k1, l1, n1, et1, E1, q1, q2, q3⟩
          · exact Or.inl ⟨σ1, τ1, q1, by rw [q2, bd_s]; rfl, q3⟩
          · exact Or.inr ⟨σ1, τ1, pl1, k1, l1, n1, W, p, L, V, E1, d, dl, et1, q1, by rw [q2, bd_s]; rfl, q3⟩
        · obtain ⟨σ1, τ1, q1, q2, q3, q4, q5⟩ := bad_ok (c := 1) hT (by omega)
          rw [decide_eq_false c3, bn_f, if_pos (show I 0 = (0 : Int32) from rfl), if_pos (show I 0 = (0 : Int32) from rfl)]
          refine Or.inl ⟨σ1, τ1, ?_, ?_, q3, CGL q4, RXL q5⟩
          · rw [show f_X5_fails (1 : Int32) σ = some (I 0, σ1) from q1, bd_s]
            rfl
          · rw [show f_X7_flaw (1 : Int32) τ = some (0, τ1) from q2, bd_s]
            rfl
theorem ft_all {τ : Wd} {f : Int} {pl n : Nat} (h : FT τ f pl) (hn : 0 < n) : f_X7_readAll_23 n τ = some (0, τ) := by
  cases n with
  | zero => omega
  | succ n =>
    have e1 := ft_sign (c := I 59) h
    have e2 := ft_flaw (c := I 1) h
    obtain ⟨h1, h2, h3, h4, h5⟩ := h
    rw [f_X7_readAll_23]
    unfold f_X7_readAll_56 f_X7_readAll_83
    simp (disch := omega) only [gd_t, bd_s, nm_W, nm_I, I_add, I_sub, I_mul, I_neg, I_le_t, I_le_f, I_lt_t, I_lt_f, I_eq_t, I_eq_f, I_inb', I_ix', Int.toNat_natCast, decide_true, decide_false, Bool.not_false, Bool.not_true, if_true, if_false, wi_eq, wi_eq', wi_ne, wi_row, wi_2, N0, N1, N2, N3, N4, N5, N6, N7, N8, N9, N10, N11, N12, N13, N14, N15, N16, N17, N18, N19, N20, N21, N22, N23, N24, N25, N26, N27, N28, N29, N30, N31, N32, N33, N34, N35, N36, N37, N38, N39, N40, N41, N42, N43, N45, N48, N57, N59, N88, N89, N97, N99, N120, N121, N122, N179, N200, N255, N300, N400, N880, N900, N999, N1019, N50000000, N100000000, N1000000000, N2147483647, N2147483648, e1, e2, h4, h1]
/-- all lines -/
theorem text_ok {m N : Nat} {bt : Nat → Int} (hm : 10 < m) : ∀ (r i n n' pl V E : Nat) (z : Int) (σ τ : Wd) (k x W p L : Int) (l : List Int) (d : MD) (dl et : Nat → Int), z = (i : Int) → i + r = 901 → r < n → r < n' → i ≤ pl → BY σ τ N bt → TK σ τ N bt pl k l x → PRD m σ τ W p L V E d dl et →
    (∃ (σ' τ' : Wd), f_X5_readInto_30 m n (I z) σ = some (I 0, σ') ∧ (bd (f_X7_readLine τ) fun _ s => f_X7_readAll_23 n' s) = some (0, τ') ∧ BD σ' τ' ∧ LC m σ σ' ∧ LF τ τ')
    ∨ (∃ (σ' τ' : Wd) (W' p' L' : Int) (V' E' : Nat) (d' : MD) (dl' et' : Nat → Int), f_X5_readInto_30 m n (I z) σ = some (I 1, σ') ∧ (bd (f_X7_readLine τ) fun _ s => f_X7_readAll_23 n' s) = some (0, τ') ∧ PRD m σ' τ' W' p' L' V' E' d' dl' et' ∧ (W' ≠ 0 ∧ 0 < V') ∧ (τ'.1 102 33 = I 0 ∧ σ'.1 1 1 = I 0) ∧ LC m σ σ' ∧ LF τ τ')
  | 0, i, n, n', pl, V, E, z, σ, τ, k, x, W, p, L, l, d, dl, et, hz, hi, hn, hn', hp, hB, hT, hP => by
    obtain ⟨nx, ⟨n1, n2, -⟩, -⟩ := hT
    have := hB.1
    omega
  | r + 1, i, n + 1, n' + 1, pl, V, E, z, σ, τ, k, x, W, p, L, l, d, dl, et, hz, hi, hn, hn', hp, hB, hT, hP => by
    have i900 : i ≤ 900 := by
      obtain ⟨nx, ⟨n1, n2, -⟩, -⟩ := hT
      have := hB.1
      omega
    have ez : ¬ (900 : Int32) < I z := by
      show ¬ I 900 < I z
      rw [I_lt (by unfold R; omega) (by unfold R; omega)]
      omega
    rw [f_X5_readInto_30]
    dsimp only
    rw [if_neg ez]
    rcases line_ok hm hB hT hP with ⟨σ1, τ1, q1, q2, q3, q4, q5⟩ | ⟨σ1, τ1, pl1, k1, l1, n1, W1, p1, L1, V1, E1, d1, dl1, et1, q1, q2, q3, q4, q5, q6, q7⟩
    · obtain ⟨f, pf, -, -, hF⟩ := id q3
      refine Or.inl ⟨σ1, τ1, ?_, ?_, q3, q4, q5⟩
      · rw [q1, bd_s, if_pos (show I 0 = (0 : Int32) from rfl)]
        rfl
      · rw [q2, bd_s]
        exact ft_all hF (by omega)
    · have hB1 : BY σ1 τ1 N bt := by
        unfold BY at hB ⊢
        rw [q6.1 2 (by decide) (by decide) (by omega), q7.1 115 (by decide) (by decide)]
        exact hB
      obtain ⟨g33, g7⟩ := TK_33 q4
      have kb := TK_k q4
      have V5 := q3.2.2.1.1.1
      have c3 := q3.2.2.1.2.1
      have c19 := q3.2.2.1.2.2
      have c16 := q3.1.2.1
      have W120 := q3.1.2.2.2.1
      have W00 := q3.1.2.2.1
      have sg := sign_ok (c := 59) q4 (Or.inl rfl)
      rw [q1, bd_s, if_neg (show ¬ I 1 = (0 : Int32) by decide), q2, bd_s, g7]
      rw [f_X7_readAll_23]
      dsimp only
      rw [show f_X7_isSign (59 : Int32) τ1 = _ from sg, bd_s]
      by_cases k0 : k1 = 0
      · have e30 : τ1.1 102 30 = I 1 := by
          obtain ⟨nx, -, -, -, hc⟩ := q4
          rcases hc with ⟨q, h⟩ | ⟨q, h, -⟩ | ⟨q, h, -⟩ | ⟨q, h, -⟩ | ⟨q, h, -⟩ | ⟨q, h⟩
          · exact h
          · omega
          · omega
          · omega
          · omega
          · omega
        rw [k0, if_pos (show I 0 = (0 : Int32) from rfl), decide_eq_false (by omega), bn_f, if_pos (show I 0 = (0 : Int32) from rfl), e30, if_pos (show I 1 = (1 : Int32) from rfl), c3]
        by_cases v0 : V1 = 0
        · obtain ⟨σ2, τ2, r1, r2, r3, r4, r5⟩ := bad_ok (c := 6) q4 (by omega)
          refine Or.inl ⟨σ2, τ2, ?_, ?_, r3, LCt q6 (CGL r4), LFt q7 (RXL r5)⟩
          · rw [if_neg (show ¬ (0 : Int32) < I (V1 : Int) by rw [v0]; decide), show f_X5_fails (6 : Int32) σ1 = some (I 0, σ2) from r1, bd_s, if_pos (show I 0 = (0 : Int32) from rfl)]
            rfl
          · unfold f_X7_readAll_56 f_X7_readAll_77 f_X7_readAll_83
            rw [g33, if_pos (show I 0 = (0 : Int32) from rfl), c16, c19, v0, if_pos (show I ((0 : Nat) : Int) = (0 : Int32) from rfl), show f_X7_flaw (6 : Int32) τ1 = some (0, τ2) from r2, bd_s]
            by_cases w0 : I W1 = (0 : Int32)
            · rw [if_pos w0]
            · rw [if_neg w0]
        · have w0 : W1 ≠ 0 := fun q => v0 (q3.1.2.2.2.2 q).1
          have c1 : σ1.1 1 1 = I 0 := by
            obtain ⟨nx, -, ⟨-, -, -, -, h⟩, -⟩ := q4
            exact h
          refine Or.inr ⟨σ1, τ1, W1, p1, L1, V1, E1, d1, dl1, et1, ?_, ?_, q3, ⟨w0, by omega⟩, ⟨g33, c1⟩, q6, q7⟩
          · rw [if_pos (show (0 : Int32) < I (V1 : Int) by show I 0 < I (V1 : Int); rw [I_lt (by unfold R; omega) (by unfold R; omega)]; omega)]
            rfl
          · unfold f_X7_readAll_56 f_X7_readAll_83
            rw [g33, if_pos (show I 0 = (0 : Int32) from rfl), c16, c19, if_neg (show ¬ I W1 = (0 : Int32) by show ¬ I W1 = I 0; rw [I_eq (by unfold R; omega) (by unfold R; omega)]; exact w0), if_neg (show ¬ I (V1 : Int) = (0 : Int32) by show ¬ I (V1 : Int) = I 0; rw [I_eq (by unfold R; omega) (by unfold R; omega)]; omega)]
      · rw [if_neg (show ¬ I k1 = (0 : Int32) by show ¬ I k1 = I 0; rw [I_eq (by unfold R; omega) (by unfold R; omega)]; exact k0)]
        by_cases k3 : k1 = 3
        · obtain ⟨σ2, τ2, pl2, k2, l2, n2, r1, r2, r3, r4, r5, r6⟩ := step_ok hB1 q4 (by omega)
          have := r4.2 k3
          rw [k3, if_pos (show I 3 = (3 : Int32) from rfl), decide_eq_true (by omega), bn_t, if_neg (show ¬ I 1 = (0 : Int32) by decide), r1, bd_s, r2, bd_s, show I z + (1 : Int32) = I (z + 1) from I_add _ 1]
          rcases text_ok hm r (i + 1) n n' pl2 V1 E1 (z + 1) σ2 τ2 k2 n2 W1 p1 L1 l2 d1 dl1 et1 (by omega) (by omega) (by omega) (by omega) (by omega) (BY_f hB1 (CFG r5) r6) r3 (PRD_f hm q3 (CFG r5) r6) with ⟨σ3, τ3, s1, s2, s3, s4, s5⟩ | ⟨σ3, τ3, W3, p3, L3, V3, E3, d3, dl3, et3, s1, s2, s3, s4, s5, s6, s7⟩
          · exact Or.inl ⟨σ3, τ3, s1, s2, s3, LCt q6 (LCt (CGL (CFG r5)) s4), LFt q7 (LFt (RXL r6) s5)⟩
          · exact Or.inr ⟨σ3, τ3, W3, p3, L3, V3, E3, d3, dl3, et3, s1, s2, s3, s4, s5, LCt q6 (LCt (CGL (CFG r5)) s6), LFt q7 (LFt (RXL r6) s7)⟩
        · obtain ⟨σ2, τ2, r1, r2, r3, r4, r5⟩ := bad_ok (c := 1) q4 (by omega)
          obtain ⟨f, pf, -, -, hF⟩ := id r3
          have n33 := RX33 (τ := τ) hF
          have n30 : ¬ τ1.1 102 30 = (1 : Int32) := by
            show ¬ τ1.1 102 30 = I 1
            obtain ⟨nx, -, -, -, hc⟩ := q4
            rcases hc with ⟨q, h⟩ | ⟨q, h, -⟩ | ⟨q, h, -⟩ | ⟨q, h, -⟩ | ⟨q, h, -⟩ | ⟨q, h⟩
            · omega
            · rw [h]; decide
            · rw [h]; decide
            · omega
            · rw [h]; decide
            · rw [h]; decide
          refine Or.inl ⟨σ2, τ2, ?_, ?_, r3, LCt q6 (CGL r4), LFt q7 (RXL r5)⟩
          · rw [if_neg (show ¬ I k1 = (3 : Int32) by show ¬ I k1 = I 3; rw [I_eq (by unfold R; omega) (by unfold R; omega)]; exact k3), show f_X5_fails (1 : Int32) σ1 = some (I 0, σ2) from r1, bd_s]
            rfl
          · rw [decide_eq_false (by omega), bn_f, if_pos (show I 0 = (0 : Int32) from rfl), if_neg n30, show f_X7_flaw (1 : Int32) τ1 = some (0, τ2) from r2, bd_s]
            unfold f_X7_readAll_56 f_X7_readAll_83
            rw [if_neg n33]
