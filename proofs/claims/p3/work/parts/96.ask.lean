/-! PURE: greedy; what is asked of the split and its venues -/
theorem m_greedy (x y : Int32) : MT (f_X6_greedy x y) (f_X7_greedy x y) := by
  intro σ τ B ⟨m, V, E, pres, kp, d, p, L, W, dl, pl, et, b, t, s, rd, h, n, g, hG⟩ hB
  obtain ⟨q, rfl, hq⟩ := argI x
  obtain ⟨w, rfl, hw⟩ := argI y
  obtain ⟨bm, m10, m63⟩ := bMm hG.1
  have c1 := cWithin (σ := σ) (lo := 0) (hi := 2) hw (by unfold R; omega) (by unfold R; omega)
  have c2 := rIn (σ := wi τ 102 0 (0 : Int32)) (lo := 0) (hi := 2) hw (by unfold R; omega) (by unfold R; omega)
  obtain ⟨x, σ', τ', k1, k2, k3, k4⟩ := amt_ok (a := bn (decide (0 ≤ w ∧ w ≤ 2))) (a' := bn (decide (0 ≤ w ∧ w ≤ 2))) (low := I (-2147483648)) (K := fun σ4 => gd (bM (σ4.2.2 0 4)) (bd (f_X1_chooseGreedily (σ4.2.2 0 4) (I q) σ4) fun _ σ6 => if I w = (0 : Int32) then (some (σ6.1 4 1, σ6)) else (if I w = (1 : Int32) then (some (σ6.1 4 0, σ6)) else (gd (bM (σ6.2.2 0 4)) (bd (f_X1_venuesUsed (σ6.2.2 0 4) σ6) fun r8 σ9 => some (r8, σ9)))))) (K' := fun σ5 => f_X7_greedy_30 FU (I q) (I w) (0 : Int32) σ5) (Rf := f_X7_refusedLow)
    hG hq (bn_bnd _) (bn_bnd _) (fun _ => rfl) (fun c τ => refL) (fun _ hw1 q1 q2 σ2 τ3 hM hm => by
      have w02 : 0 ≤ w ∧ w ≤ 2 := by
        by_cases c : 0 ≤ w ∧ w ≤ 2
        · exact c
        · rw [decide_eq_false c, bn_f] at hw1; omega
      obtain ⟨n, hn, n1⟩ := nat_of (show 0 ≤ q by omega) q2
      obtain ⟨σ', a1, a2, a3, a4, a5, a6⟩ := cGreedy (q := n) m10 hM.1 (QM_p hM) n1 hM.2.1 hM.2.2.2.1.1
      obtain ⟨τ', b1, b2, b3⟩ := r_g0 (q := n) (what := w) hM.1 (QM_p hM) n1 w02 5 0 FU 0 τ3 rfl rfl (by decide) hM.2.2.1 hM.2.2.2.1.2.1 (fun w hw => absurd hw (by omega))
      have hm' : σ'.2.2 0 4 = m := by rw [a6]; exact hm
      have gb := gr_GB (p := p) (q := n) hM.1 120 (fun _ => 0) (n : Int) (GB_0 n1)
      have h5 := hM.1.1
      have cu := c_used (σ := σ') (m := m) (d := d) (a := (gr d p V 120 (fun _ => 0) (n : Int)).1) (by rw [a5 m (by omega)]; exact hM.2.1.1) h5 a4 (fun v hv => by have := gb.2.2 v hv; have := gb.1; omega) V 0 FU 0 0 rfl (by omega) (by show _ < 6000; omega)
      rw [← hn] at a1 b1
      have rq : RQ τ3 τ' := ⟨fun k _ hk => b2 k (by omega), fun i _ => by rw [b2 102 (by decide)], b3⟩
      have qf : QF σ2 σ' := ⟨fun k hk => a5 k (by omega), a6⟩
      rcases (show w = 0 ∨ w = 1 ∨ w = 2 by omega) with c | c | c
      · rw [if_pos c] at b1
        refine ⟨_, σ', τ', ?_, b1, qf, rq⟩
        show gd (bM (σ2.2.2 0 4)) (bd (f_X1_chooseGreedily (σ2.2.2 0 4) (I q) σ2) _) = _
        rw [hm, bm, gd_t, a1, bd_s, c, if_pos (show I 0 = (0 : Int32) from rfl), a3, hn]
      · rw [if_neg (by omega), if_pos c] at b1
        refine ⟨_, σ', τ', ?_, b1, qf, rq⟩
        show gd (bM (σ2.2.2 0 4)) (bd (f_X1_chooseGreedily (σ2.2.2 0 4) (I q) σ2) _) = _
        rw [hm, bm, gd_t, a1, bd_s, c, if_neg (by decide), if_pos (show I 1 = (1 : Int32) from rfl), a2, hn]
      · rw [if_neg (by omega), if_neg (by omega)] at b1
        refine ⟨_, σ', τ', ?_, b1, qf, rq⟩
        show gd (bM (σ2.2.2 0 4)) (bd (f_X1_chooseGreedily (σ2.2.2 0 4) (I q) σ2) _) = _
        rw [hm, bm, gd_t, a1, bd_s, c, if_neg (by decide), if_neg (by decide), hm', bm, gd_t]
        unfold f_X1_venuesUsed
        rw [show (0 : Int32) = I 0 from rfl] at cu ⊢
        rw [cu, bd_s, hn])
  refine ⟨x, σ', τ', ?_, ?_, ⟨m, V, E, pres, kp, d, p, L, W, dl, pl, et, b, t, s, rd, h, n, g, GA_B k3 (by omega)⟩, k4⟩
  · unfold f_X6_greedy
    rw [show (2 : Int32) = I 2 from rfl, show (0 : Int32) = I 0 from rfl, c1, bd_s]
    exact k1
  · unfold f_X7_greedy
    rw [nm_W, show (2 : Int32) = I 2 from rfl]
    show bd (f_X7_in (I w) (I 0) (I 2) (wi τ 102 0 (0 : Int32))) _ = _
    rw [c2, bd_s]
    exact k2
/-- any call that is granted or refused, and changes nothing else -/
theorem grq_ok {m V E : Nat} {σ τ : Wd} {pres kp : Bool} {d : MD} {p L W : Int} {dl pl et : Nat → Int} {b : Bool} {t s rd : Int} {h n g : Nat → Int} {B a nn ss : Int} {low : Int32} {K : Wd → Option (Int32 × Wd)} {fr : Wd → Option (Int32 × Wd)}
    (hG : GA m σ τ V E pres kp d p L W dl pl et b t s rd h n g B) (ha : 0 ≤ a ∧ a ≤ 1) (hn : 0 ≤ nn ∧ nn ≤ 1) (hs : 0 ≤ ss ∧ ss ≤ 1)
    (hr0 : tc pres a nn ss ≠ 0 → fr τ = some (low, wi (wi (wi τ 102 0 (I 0)) 102 1 (I (tc pres a nn ss))) 102 2 (I (-1))))
    (hr1 : pres = true → a = 1 → nn = 1 → ss = 1 → QM m (wi σ 0 12 (I 0)) (wi τ 102 0 (I 0)) V d p L W dl pl → QR 63 (wi σ 0 12 (I 0)) (wi τ 102 0 (I 0)) b t s → ∃ (x : Int32) (σ' τ4 : Wd), K (wi σ 0 12 (I 0)) = some (x, σ') ∧ fr τ = bd (f_X7_good x τ4) (fun r s => some (r, s)) ∧ QF (wi σ 0 12 (I 0)) σ' ∧ RQ (wi τ 102 0 (I 0)) τ4) :
    ∃ (x : Int32) (σ' τ' : Wd), (bd (f_X6_granted (I a) (I nn) (I ss) σ) fun r1 σ2 => if r1 = 0 then some (low, σ2) else K σ2) = some (x, σ') ∧ fr τ = some (x, τ') ∧ GA m σ' τ' V E pres kp d p L W dl pl et b t s rd h n g B ∧ CL_ σ σ' ∧ RL_ τ τ' := by
  have hG0 := hG
  obtain ⟨g1, g2, ⟨g3, g4⟩, ⟨g5, g6, g7⟩, -⟩ := hG0
  obtain ⟨bm, m10, m63⟩ := bMm g1
  have e1 := cGrant (σ := σ) g5 ha hn hs
  have cb := tc_b (pres := pres) (a := a) (n := nn) (s := ss)
  by_cases c0 : tc pres a nn ss = 0
  · obtain ⟨x1, x2, x3, x4⟩ := tc_0 c0
    rw [c0] at e1
    rw [e1, bd_s]
    have M2 : QM m (wi σ 0 12 (I 0)) (wi τ 102 0 (I 0)) V d p L W dl pl := QM_rows g3.1 (fun k a1 a2 => wi_row (by omega)) (fun i a1 a2 => wi_ne (by omega)) (wi_row (by decide)) (wi_row (by decide)) (fun i _ => by rw [wi_row (by decide)])
    have R2 : QR 63 (wi σ 0 12 (I 0)) (wi τ 102 0 (I 0)) b t s := QR_rows g3.2.2.1 (fun i _ => by rw [wi_row (by decide)]) (fun i _ _ => by rw [wi_row (by decide)]) (by rw [wi_row (by decide), wi_row (by decide)]; exact g3.2.2.1.2.2.2.2.2.2)
    obtain ⟨x, σ', τ4, k1, k2, ⟨k3, k4⟩, ⟨k5, k6, k7⟩⟩ := hr1 x1 (by omega) (by omega) (by omega) M2 R2
    refine ⟨x, σ', wi (wi τ4 102 1 (I 0)) 102 2 (I (-1)), ?_, ?_, ?_, ⟨fun k hk => by rw [k3 k (by omega), wi_row (by omega)], by rw [k4, wi_2]⟩, ⟨fun k hk => by rw [wi_row (by omega), wi_row (by omega), k5 k (by omega) (by omega), wi_row (by omega)], by rw [wi_2, wi_2, k7, wi_2]⟩⟩
    · rw [decide_eq_true rfl, bn_t, if_neg (by decide)]
      exact k1
    · rw [k2, goodR]
      rfl
    · exact GA_q (c := 0) hG (fun k a1 a2 => by rw [k3 k a2, wi_row a1]) (fun i a1 => by rw [k3 0 (by decide), wi_ne a1]) (by rw [k4, wi_2]) (fun k a1 a2 => by rw [wi_row a1, wi_row a1, k5 k a1 a2, wi_row a1]) (fun i a1 a2 => by rw [wi_ne (by omega), wi_ne (by omega), k6 i a2, wi_ne (by omega)]) (by rw [k3 0 (by decide), wi_eq]) (by rw [wi_ne (by decide), wi_eq]) wi_eq (by omega)
  · rw [e1, bd_s]
    refine ⟨low, wi σ 0 12 (I (tc pres a nn ss)), _, ?_, hr0 c0, ?_, ⟨fun k hk => by rw [wi_row (by omega)], by rw [wi_2]⟩, ⟨fun k hk => by rw [wi_row (by omega), wi_row (by omega), wi_row (by omega)], by rw [wi_2, wi_2, wi_2]⟩⟩
    · rw [decide_eq_false c0, bn_f, if_pos (show I 0 = (0 : Int32) from rfl)]
    · exact GA_q (c := tc pres a nn ss) hG (fun k a1 a2 => wi_row a1) (fun i a1 => wi_ne a1) wi_2 (fun k a1 a2 => by rw [wi_row a1, wi_row a1, wi_row a1]) (fun i a1 a2 => by rw [wi_ne (by omega), wi_ne (by omega), wi_ne (by omega)]) wi_eq (by rw [wi_ne (by decide), wi_eq]) wi_eq cb
/-- what tc says, by cases -/
theorem tc_cases {pres : Bool} {a n s : Int} : (pres = false ∧ tc pres a n s = 1) ∨ (pres = true ∧ a = 0 ∧ tc pres a n s = 1) ∨ (pres = true ∧ a ≠ 0 ∧ n = 0 ∧ tc pres a n s = 2) ∨ (pres = true ∧ a ≠ 0 ∧ n ≠ 0 ∧ s = 0 ∧ tc pres a n s = 5) ∨ (pres = true ∧ a ≠ 0 ∧ n ≠ 0 ∧ s ≠ 0 ∧ tc pres a n s = 0) := by
  cases pres with
  | false => exact Or.inl ⟨rfl, by unfold tc; rw [if_pos (Or.inl rfl)]⟩
  | true =>
    refine Or.inr ?_
    by_cases c1 : a = 0
    · exact Or.inl ⟨rfl, c1, by unfold tc; rw [if_pos (Or.inr c1)]⟩
    · have h1 : ¬ (true = false ∨ a = 0) := fun q => by
        rcases q with q | q
        · cases q
        · exact c1 q
      refine Or.inr ?_
      by_cases c2 : n = 0
      · exact Or.inl ⟨rfl, c1, c2, by unfold tc; rw [if_neg h1, if_pos c2]⟩
      · refine Or.inr ?_
        by_cases c3 : s = 0
        · exact Or.inl ⟨rfl, c1, c2, c3, by unfold tc; rw [if_neg h1, if_neg c2, if_pos c3]⟩
        · exact Or.inr ⟨rfl, c1, c2, c3, by unfold tc; rw [if_neg h1, if_neg c2, if_neg c3]⟩
theorem m_about (x : Int32) : MT (f_X6_about x) (f_X7_about x) := by
  intro σ τ B ⟨m, V, E, pres, kp, d, p, L, W, dl, pl, et, b, t, s, rd, h, n, g, hG⟩ hB
  obtain ⟨w, rfl, hw⟩ := argI x
  obtain ⟨bm, m10, m63⟩ := bMm hG.1
  have hG' := hG
  obtain ⟨g1, g2, ⟨g3, g4⟩, ⟨g5, g6, g7⟩, -⟩ := hG'
  have hE := g3.2.1
  have c1 := cWithin (σ := σ) (lo := 0) (hi := 4) hw (by unfold R; omega) (by unfold R; omega)
  have w35 : Int.toNat 35 = 35 := rfl
  have hwR := hw
  unfold R at hwR
  obtain ⟨y, hy⟩ : ∃ y, y = bn pres := ⟨_, rfl⟩
  have yb := bn_bnd pres
  rw [← hy] at yb
  have g6' : τ.1 102 21 = I y := by rw [hy]; exact g6
  obtain ⟨x, σ', τ', k1, k2, k3, k4⟩ := grq_ok (a := bn (decide (0 ≤ w ∧ w ≤ 4))) (nn := 1) (ss := 1) (low := I (-1)) (K := fun σ4 => if I w = (0 : Int32) then (gd (bM (σ4.2.2 0 4)) (some (σ4.1 (σ4.2.2 0 4) 0, σ4))) else (if I w = (1 : Int32) then (gd (bM (σ4.2.2 0 4)) (some (σ4.1 (σ4.2.2 0 4) 1, σ4))) else (if I w = (2 : Int32) then (gd (bM (σ4.2.2 0 4)) (some (σ4.1 (σ4.2.2 0 4) 2, σ4))) else (if I w = (3 : Int32) then (gd (bM (σ4.2.2 0 4)) (some (σ4.1 (σ4.2.2 0 4) 3, σ4))) else (gd (bM (σ4.2.2 0 4)) (some (σ4.1 (σ4.2.2 0 4) 4, σ4))))))) (fr := f_X7_about (I w))
    hG (bn_bnd _) (by omega) (by omega)
    (fun hc => by
      rcases tc_cases (pres := pres) (a := bn (decide (0 ≤ w ∧ w ≤ 4))) (n := 1) (s := 1) with ⟨q1, q2⟩ | ⟨q1, q2, q3⟩ | ⟨-, -, q2, -⟩ | ⟨-, -, -, q2, -⟩ | ⟨-, -, -, -, q2⟩
      · rw [q2]
        have y0 : y = 0 := by rw [hy, q1]; rfl
        unfold f_X7_about
        simp (disch := omega) only [gd_t, bd_s, nm_W, nm_I, I_add, I_sub, I_mul, I_neg, I_le_t, I_le_f, I_lt_t, I_lt_f, I_eq_t, I_eq_f, I_inb', I_ix', Int.toNat_natCast, decide_true, decide_false, Bool.not_false, Bool.not_true, if_true, if_false, wi_eq, wi_eq', wi_ne, wi_row, wi_2, N0, N1, N2, N3, N4, N5, N6, N7, N8, N9, N10, N11, N12, N13, N14, N15, N16, N17, N18, N19, N20, N21, N22, N23, N24, N25, N26, N27, N28, N29, N30, N31, N32, N33, N34, N35, N36, N37, N38, N39, N40, N41, N42, N43, N45, N48, N57, N59, N88, N89, N97, N99, N120, N121, N122, N179, N200, N255, N300, N400, N880, N900, N999, N1019, N50000000, N100000000, N1000000000, N2147483647, N2147483648, g6', refR]
      · rw [q3]
        have y1 : y = 1 := by rw [hy, q1]; rfl
        have wn : w < 0 ∨ 4 < w := by
          by_cases c : 0 ≤ w ∧ w ≤ 4
          · rw [decide_eq_true c] at q2; cases q2
          · omega
        unfold f_X7_about
        rcases wn with wn | wn
        · simp (disch := omega) only [gd_t, bd_s, nm_W, nm_I, I_add, I_sub, I_mul, I_neg, I_le_t, I_le_f, I_lt_t, I_lt_f, I_eq_t, I_eq_f, I_inb', I_ix', Int.toNat_natCast, decide_true, decide_false, Bool.not_false, Bool.not_true, if_true, if_false, wi_eq, wi_eq', wi_ne, wi_row, wi_2, N0, N1, N2, N3, N4, N5, N6, N7, N8, N9, N10, N11, N12, N13, N14, N15, N16, N17, N18, N19, N20, N21, N22, N23, N24, N25, N26, N27, N28, N29, N30, N31, N32, N33, N34, N35, N36, N37, N38, N39, N40, N41, N42, N43, N45, N48, N57, N59, N88, N89, N97, N99, N120, N121, N122, N179, N200, N255, N300, N400, N880, N900, N999, N1019, N50000000, N100000000, N1000000000, N2147483647, N2147483648, g6', refR]
        · simp (disch := omega) only [gd_t, bd_s, nm_W, nm_I, I_add, I_sub, I_mul, I_neg, I_le_t, I_le_f, I_lt_t, I_lt_f, I_eq_t, I_eq_f, I_inb', I_ix', Int.toNat_natCast, decide_true, decide_false, Bool.not_false, Bool.not_true, if_true, if_false, wi_eq, wi_eq', wi_ne, wi_row, wi_2, N0, N1, N2, N3, N4, N5, N6, N7, N8, N9, N10, N11, N12, N13, N14, N15, N16, N17, N18, N19, N20, N21, N22, N23, N24, N25, N26, N27, N28, N29, N30, N31, N32, N33, N34, N35, N36, N37, N38, N39, N40, N41, N42, N43, N45, N48, N57, N59, N88, N89, N97, N99, N120, N121, N122, N179, N200, N255, N300, N400, N880, N900, N999, N1019, N50000000, N100000000, N1000000000, N2147483647, N2147483648, g6', refR]
      · omega
      · omega
      · exact absurd q2 hc)
    (fun hp ha _ _ hM hR => by
      have y1 : y = 1 := by rw [hy, hp]; rfl
      have w04 : 0 ≤ w ∧ w ≤ 4 := by
        by_cases c : 0 ≤ w ∧ w ≤ 4
        · exact c
        · rw [decide_eq_false c, bn_f] at ha; omega
      have hm : (wi σ 0 12 (I 0)).2.2 0 4 = m := g2
      have a0 := hM.2.2.2.2.2.1.1
      have b0 := g3.1.2.2.2.2.2.1.2.1
      have a1 := hM.2.2.2.1.1
      have b1 := g3.1.2.2.2.1.2.1
      have a2 := hM.2.2.2.2.1.1
      have b2 := g3.1.2.2.2.2.1.2.1
      have a3 := hM.2.1.1
      have b3 := g3.1.2.2.1.1
      have a4 : (wi σ 0 12 (I 0)).1 m 4 = I (E : Int) := by rw [wi_row (by omega)]; exact hE.2.1
      have b4 := hE.2.2.1
      clear hM hR hE g3 hG
      have rf : RQ (wi τ 102 0 (I 0)) (wi τ 102 0 (I 0)) := ⟨fun _ _ _ => rfl, fun _ _ => rfl, rfl⟩
      have qf : QF (wi σ 0 12 (I 0)) (wi σ 0 12 (I 0)) := ⟨fun _ _ => rfl, rfl⟩
      obtain ⟨σ2, hσ2⟩ : ∃ s, s = wi σ 0 12 (I 0) := ⟨_, rfl⟩
      rw [← hσ2] at hm a0 a1 a2 a3 a4 qf ⊢
      rcases (show w = 0 ∨ w = 1 ∨ w = 2 ∨ w = 3 ∨ w = 4 by omega) with c | c | c | c | c
      · refine ⟨I W, σ2, wi τ 102 0 (I 0), ?_, ?_, qf, rf⟩
        · simp (disch := omega) only [gd_t, bd_s, nm_W, nm_I, I_add, I_sub, I_mul, I_neg, I_le_t, I_le_f, I_lt_t, I_lt_f, I_eq_t, I_eq_f, I_inb', I_ix', Int.toNat_natCast, decide_true, decide_false, Bool.not_false, Bool.not_true, if_true, if_false, wi_eq, wi_eq', wi_ne, wi_row, wi_2, N0, N1, N2, N3, N4, N5, N6, N7, N8, N9, N10, N11, N12, N13, N14, N15, N16, N17, N18, N19, N20, N21, N22, N23, N24, N25, N26, N27, N28, N29, N30, N31, N32, N33, N34, N35, N36, N37, N38, N39, N40, N41, N42, N43, N45, N48, N57, N59, N88, N89, N97, N99, N120, N121, N122, N179, N200, N255, N300, N400, N880, N900, N999, N1019, N50000000, N100000000, N1000000000, N2147483647, N2147483648, hm, bm, a0]
        · unfold f_X7_about
          simp (disch := omega) only [gd_t, bd_s, nm_W, nm_I, I_add, I_sub, I_mul, I_neg, I_le_t, I_le_f, I_lt_t, I_lt_f, I_eq_t, I_eq_f, I_inb', I_ix', Int.toNat_natCast, decide_true, decide_false, Bool.not_false, Bool.not_true, if_true, if_false, wi_eq, wi_eq', wi_ne, wi_row, wi_2, N0, N1, N2, N3, N4, N5, N6, N7, N8, N9, N10, N11, N12, N13, N14, N15, N16, N17, N18, N19, N20, N21, N22, N23, N24, N25, N26, N27, N28, N29, N30, N31, N32, N33, N34, N35, N36, N37, N38, N39, N40, N41, N42, N43, N45, N48, N57, N59, N88, N89, N97, N99, N120, N121, N122, N179, N200, N255, N300, N400, N880, N900, N999, N1019, N50000000, N100000000, N1000000000, N2147483647, N2147483648, g6', w35, b0]
      · refine ⟨I p, σ2, wi τ 102 0 (I 0), ?_, ?_, qf, rf⟩
        · simp (disch := omega) only [gd_t, bd_s, nm_W, nm_I, I_add, I_sub, I_mul, I_neg, I_le_t, I_le_f, I_lt_t, I_lt_f, I_eq_t, I_eq_f, I_inb', I_ix', Int.toNat_natCast, decide_true, decide_false, Bool.not_false, Bool.not_true, if_true, if_false, wi_eq, wi_eq', wi_ne, wi_row, wi_2, N0, N1, N2, N3, N4, N5, N6, N7, N8, N9, N10, N11, N12, N13, N14, N15, N16, N17, N18, N19, N20, N21, N22, N23, N24, N25, N26, N27, N28, N29, N30, N31, N32, N33, N34, N35, N36, N37, N38, N39, N40, N41, N42, N43, N45, N48, N57, N59, N88, N89, N97, N99, N120, N121, N122, N179, N200, N255, N300, N400, N880, N900, N999, N1019, N50000000, N100000000, N1000000000, N2147483647, N2147483648, hm, bm, a1]
        · unfold f_X7_about
          simp (disch := omega) only [gd_t, bd_s, nm_W, nm_I, I_add, I_sub, I_mul, I_neg, I_le_t, I_le_f, I_lt_t, I_lt_f, I_eq_t, I_eq_f, I_inb', I_ix', Int.toNat_natCast, decide_true, decide_false, Bool.not_false, Bool.not_true, if_true, if_false, wi_eq, wi_eq', wi_ne, wi_row, wi_2, N0, N1, N2, N3, N4, N5, N6, N7, N8, N9, N10, N11, N12, N13, N14, N15, N16, N17, N18, N19, N20, N21, N22, N23, N24, N25, N26, N27, N28, N29, N30, N31, N32, N33, N34, N35, N36, N37, N38, N39, N40, N41, N42, N43, N45, N48, N57, N59, N88, N89, N97, N99, N120, N121, N122, N179, N200, N255, N300, N400, N880, N900, N999, N1019, N50000000, N100000000, N1000000000, N2147483647, N2147483648, g6', b1]
      · refine ⟨I L, σ2, wi τ 102 0 (I 0), ?_, ?_, qf, rf⟩
        · simp (disch := omega) only [gd_t, bd_s, nm_W, nm_I, I_add, I_sub, I_mul, I_neg, I_le_t, I_le_f, I_lt_t, I_lt_f, I_eq_t, I_eq_f, I_inb', I_ix', Int.toNat_natCast, decide_true, decide_false, Bool.not_false, Bool.not_true, if_true, if_false, wi_eq, wi_eq', wi_ne, wi_row, wi_2, N0, N1, N2, N3, N4, N5, N6, N7, N8, N9, N10, N11, N12, N13, N14, N15, N16, N17, N18, N19, N20, N21, N22, N23, N24, N25, N26, N27, N28, N29, N30, N31, N32, N33, N34, N35, N36, N37, N38, N39, N40, N41, N42, N43, N45, N48, N57, N59, N88, N89, N97, N99, N120, N121, N122, N179, N200, N255, N300, N400, N880, N900, N999, N1019, N50000000, N100000000, N1000000000, N2147483647, N2147483648, hm, bm, a2]
        · unfold f_X7_about
          simp (disch := omega) only [gd_t, bd_s, nm_W, nm_I, I_add, I_sub, I_mul, I_neg, I_le_t, I_le_f, I_lt_t, I_lt_f, I_eq_t, I_eq_f, I_inb', I_ix', Int.toNat_natCast, decide_true, decide_false, Bool.not_false, Bool.not_true, if_true, if_false, wi_eq, wi_eq', wi_ne, wi_row, wi_2, N0, N1, N2, N3, N4, N5, N6, N7, N8, N9, N10, N11, N12, N13, N14, N15, N16, N17, N18, N19, N20, N21, N22, N23, N24, N25, N26, N27, N28, N29, N30, N31, N32, N33, N34, N35, N36, N37, N38, N39, N40, N41, N42, N43, N45, N48, N57, N59, N88, N89, N97, N99, N120, N121, N122, N179, N200, N255, N300, N400, N880, N900, N999, N1019, N50000000, N100000000, N1000000000, N2147483647, N2147483648, g6', b2]
      · refine ⟨I (V : Int), σ2, wi τ 102 0 (I 0), ?_, ?_, qf, rf⟩
        · simp (disch := omega) only [gd_t, bd_s, nm_W, nm_I, I_add, I_sub, I_mul, I_neg, I_le_t, I_le_f, I_lt_t, I_lt_f, I_eq_t, I_eq_f, I_inb', I_ix', Int.toNat_natCast, decide_true, decide_false, Bool.not_false, Bool.not_true, if_true, if_false, wi_eq, wi_eq', wi_ne, wi_row, wi_2, N0, N1, N2, N3, N4, N5, N6, N7, N8, N9, N10, N11, N12, N13, N14, N15, N16, N17, N18, N19, N20, N21, N22, N23, N24, N25, N26, N27, N28, N29, N30, N31, N32, N33, N34, N35, N36, N37, N38, N39, N40, N41, N42, N43, N45, N48, N57, N59, N88, N89, N97, N99, N120, N121, N122, N179, N200, N255, N300, N400, N880, N900, N999, N1019, N50000000, N100000000, N1000000000, N2147483647, N2147483648, hm, bm, a3]
        · unfold f_X7_about
          simp (disch := omega) only [gd_t, bd_s, nm_W, nm_I, I_add, I_sub, I_mul, I_neg, I_le_t, I_le_f, I_lt_t, I_lt_f, I_eq_t, I_eq_f, I_inb', I_ix', Int.toNat_natCast, decide_true, decide_false, Bool.not_false, Bool.not_true, if_true, if_false, wi_eq, wi_eq', wi_ne, wi_row, wi_2, N0, N1, N2, N3, N4, N5, N6, N7, N8, N9, N10, N11, N12, N13, N14, N15, N16, N17, N18, N19, N20, N21, N22, N23, N24, N25, N26, N27, N28, N29, N30, N31, N32, N33, N34, N35, N36, N37, N38, N39, N40, N41, N42, N43, N45, N48, N57, N59, N88, N89, N97, N99, N120, N121, N122, N179, N200, N255, N300, N400, N880, N900, N999, N1019, N50000000, N100000000, N1000000000, N2147483647, N2147483648, g6', b3]
      · refine ⟨I (E : Int), σ2, wi τ 102 0 (I 0), ?_, ?_, qf, rf⟩
        · simp (disch := omega) only [gd_t, bd_s, nm_W, nm_I, I_add, I_sub, I_mul, I_neg, I_le_t, I_le_f, I_lt_t, I_lt_f, I_eq_t, I_eq_f, I_inb', I_ix', Int.toNat_natCast, decide_true, decide_false, Bool.not_false, Bool.not_true, if_true, if_false, wi_eq, wi_eq', wi_ne, wi_row, wi_2, N0, N1, N2, N3, N4, N5, N6, N7, N8, N9, N10, N11, N12, N13, N14, N15, N16, N17, N18, N19, N20, N21, N22, N23, N24, N25, N26, N27, N28, N29, N30, N31, N32, N33, N34, N35, N36, N37, N38, N39, N40, N41, N42, N43, N45, N48, N57, N59, N88, N89, N97, N99, N120, N121, N122, N179, N200, N255, N300, N400, N880, N900, N999, N1019, N50000000, N100000000, N1000000000, N2147483647, N2147483648, hm, bm, a4]
        · unfold f_X7_about
          simp (disch := omega) only [gd_t, bd_s, nm_W, nm_I, I_add, I_sub, I_mul, I_neg, I_le_t, I_le_f, I_lt_t, I_lt_f, I_eq_t, I_eq_f, I_inb', I_ix', Int.toNat_natCast, decide_true, decide_false, Bool.not_false, Bool.not_true, if_true, if_false, wi_eq, wi_eq', wi_ne, wi_row, wi_2, N0, N1, N2, N3, N4, N5, N6, N7, N8, N9, N10, N11, N12, N13, N14, N15, N16, N17, N18, N19, N20, N21, N22, N23, N24, N25, N26, N27, N28, N29, N30, N31, N32, N33, N34, N35, N36, N37, N38, N39, N40, N41, N42, N43, N45, N48, N57, N59, N88, N89, N97, N99, N120, N121, N122, N179, N200, N255, N300, N400, N880, N900, N999, N1019, N50000000, N100000000, N1000000000, N2147483647, N2147483648, g6', b4])
  refine ⟨x, σ', τ', ?_, k2, ⟨m, V, E, pres, kp, d, p, L, W, dl, pl, et, b, t, s, rd, h, n, g, GA_B k3 (by omega)⟩, k4⟩
  unfold f_X6_about
  rw [show (0 : Int32) = I 0 from rfl, show (4 : Int32) = I 4 from rfl, c1, bd_s]
  exact k1
