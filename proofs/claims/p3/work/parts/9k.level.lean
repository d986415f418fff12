/-! PURE: the text: a level's line -/
def lR2 (m : Nat) (x2 x3 : Int32) (σ7 : Wd) : Option (Int32 × Wd) := bd (f_X6_slot x2 x3 σ7) fun r8 σ9 => gd (inb r8 30) (nmW (wi σ9 (m + 9) (ix r8) (σ9.1 1 10)) fun σ10 => gd (inb x2 5) (gd (inb x2 5) (nmW (wi σ10 (m + 6) (ix x2) ((σ10.1 (m + 6) (ix x2)) + (1 : Int32))) fun σ11 => gd (isb (1 : Int32)) (some ((1 : Int32), σ11)))))
def lR1 (m : Nat) (x2 x3 : Int32) (σ2 : Wd) : Option (Int32 × Wd) := bd (f_X6_slot x2 x3 σ2) fun r3 σ4 => gd (inb r3 30) (nmW (wi σ4 (m + 8) (ix r3) (σ4.1 1 10)) fun σ5 => bd (f_X5_takesWhole (I 1) (I 99) σ5) fun r6 σ7 => if r6 = 0 then (gd (isb (0 : Int32)) (some ((0 : Int32), σ7))) else lR2 m x2 x3 σ7)
theorem lR_eq {m : Nat} {x2 x3 s0 : Int32} {σ : Wd} : f_X5_readLevel_58 m x2 x3 s0 σ = bd (f_X5_takesWhole (s0 + (1 : Int32)) (I 999) σ) fun r1 σ2 => if r1 = 0 then (gd (isb (0 : Int32)) (some ((0 : Int32), σ2))) else lR1 m x2 x3 σ2 := rfl
theorem slot_ok {σ : Wd} {v k : Nat} (hv : v < 5) (hk : k < 6) : f_X6_slot (I (v : Int)) (I (k : Int)) σ = some (I ((6 * v + k : Nat) : Int), σ) := by
  unfold f_X6_slot
  simp (disch := omega) only [gd_t, bd_s, nm_W, nm_I, I_add, I_sub, I_mul, I_neg, I_le_t, I_le_f, I_lt_t, I_lt_f, I_eq_t, I_eq_f, I_inb', I_ix', Int.toNat_natCast, decide_true, decide_false, Bool.not_false, Bool.not_true, if_true, if_false, wi_eq, wi_eq', wi_ne, wi_row, wi_2, N0, N1, N2, N3, N4, N5, N6, N7, N8, N9, N10, N11, N12, N13, N14, N15, N16, N17, N18, N19, N20, N21, N22, N23, N24, N25, N26, N27, N28, N29, N30, N31, N32, N33, N34, N35, N36, N37, N38, N39, N40, N41, N42, N43, N45, N48, N57, N59, N88, N89, N97, N99, N120, N121, N122, N179, N200, N255, N300, N400, N880, N900, N999, N1019, N50000000, N100000000, N1000000000, N2147483647, N2147483648]
  rw [show (v : Int) * 6 + (k : Int) = ((6 * v + k : Nat) : Int) by omega]
theorem ft_lev74 {τ : Wd} {f : Int} {pl : Nat} {x1 x2 s1 : Int32} (h : FT τ f pl) : f_X7_readLevelLine_74 x1 x2 s1 τ = some (0, τ) := by
  have e2 := ft_whole (lo := s1) (hi := I 999) h
  have e3 := ft_whole (lo := I 1) (hi := I 99) h
  obtain ⟨h1, h2, h3, h4, h5⟩ := h
  unfold f_X7_readLevelLine_74
  simp (disch := omega) only [gd_t, bd_s, nm_W, nm_I, I_add, I_sub, I_mul, I_neg, I_le_t, I_le_f, I_lt_t, I_lt_f, I_eq_t, I_eq_f, I_inb', I_ix', Int.toNat_natCast, decide_true, decide_false, Bool.not_false, Bool.not_true, if_true, if_false, wi_eq, wi_eq', wi_ne, wi_row, wi_2, N0, N1, N2, N3, N4, N5, N6, N7, N8, N9, N10, N11, N12, N13, N14, N15, N16, N17, N18, N19, N20, N21, N22, N23, N24, N25, N26, N27, N28, N29, N30, N31, N32, N33, N34, N35, N36, N37, N38, N39, N40, N41, N42, N43, N45, N48, N57, N59, N88, N89, N97, N99, N120, N121, N122, N179, N200, N255, N300, N400, N880, N900, N999, N1019, N50000000, N100000000, N1000000000, N2147483647, N2147483648, e2, e3, h1]
theorem ft_lev39 {τ : Wd} {f : Int} {pl : Nat} {x1 x2 : Int32} (h : FT τ f pl) : f_X7_readLevelLine_39 x1 x2 τ = some (0, τ) := by
  have e2 := ft_next h
  have e3 : ∀ s1 : Int32, f_X7_readLevelLine_74 x1 x2 s1 τ = some (0, τ) := fun s1 => ft_lev74 h
  obtain ⟨h1, h2, h3, h4, h5⟩ := h
  unfold f_X7_readLevelLine_39 f_X7_readLevelLine_55
  by_cases c : x2 = 0
  · rw [e2, bd_s, if_pos c, e3]
  · rw [e2, bd_s, if_neg c, h1, if_neg (show ¬ I f ≤ (0 : Int32) by show ¬ I f ≤ I 0; rw [I_le (by unfold R; omega) (by unfold R; omega)]; omega), e3]
def dL (d : MD) (u k : Nat) (x y : Int) : MD := (d.1, (fun j => if j = u then k + 1 else d.lv j), (fun j => if j = 6 * u + k then x else d.pr j), (fun j => if j = 6 * u + k then y else d.sz j))
theorem MDok_dL {d : MD} {V u k : Nat} {x y : Int} (h : MDok d V) (hu : u < V) (hk : k < 6) (ek : d.lv u = k) (hx : 1 ≤ x ∧ x ≤ 999) (hy : 0 ≤ y ∧ y ≤ 99) : MDok (dL d u k x y) V := by
  refine ⟨h.1, fun v hv => ?_⟩
  obtain ⟨a, b, c, e, f, g⟩ := h.2 v hv
  refine ⟨a, b, c, e, ?_, fun i h1 h2 => ?_⟩
  · show (if v = u then k + 1 else d.lv v) ≤ 6
    by_cases q : v = u
    · rw [if_pos q]; omega
    · rw [if_neg q]; exact f
  · have h2 : i < 6 * v + (if v = u then k + 1 else d.lv v) := h2
    show 0 ≤ (if i = 6 * u + k then y else d.sz i) ∧ (if i = 6 * u + k then y else d.sz i) ≤ 99 ∧ 1 ≤ (if i = 6 * u + k then x else d.pr i) ∧ (if i = 6 * u + k then x else d.pr i) ≤ 999
    by_cases q : i = 6 * u + k
    · rw [if_pos q, if_pos q]; omega
    · rw [if_neg q, if_neg q]
      refine g i h1 ?_
      by_cases q2 : v = u
      · rw [if_pos q2] at h2
        subst q2
        have ek : d.lv v = k := ek
        omega
      · rw [if_neg q2] at h2; exact h2
/-- the state of the reference behind a level's line -/
def lF (τ : Wd) (u k : Nat) (x y : Int) : Wd := wi (wi (wi τ 107 (6 * u + k) (I x)) 109 (6 * u + k) (I y)) 106 (5 * u + 4) (I ((k : Int) + 1))
def lC (m : Nat) (σ : Wd) (u k : Nat) (y : Int) : Wd := wi (wi σ (m + 9) (6 * u + k) (I y)) (m + 6) u (I ((k : Int) + 1))
theorem lev_good {m V E N pl' u k : Nat} {bt : Nat → Int} {σ τ σ6 τ6 : Wd} {W p L x y k' n' : Int} {l' : List Int} {d : MD} {dl et : Nat → Int} (hm : 10 < m) (hu : u < V) (hk : k < 6) (ek : d.lv u = k) (hP : PRD m σ τ W p L V E d dl et)
    (c1 : ∀ j, j ≠ 1 → j ≠ m + 8 → σ6.1 j = σ.1 j) (c2 : ∀ i, i ≠ 6 * u + k → σ6.1 (m + 8) i = σ.1 (m + 8) i) (c3 : σ6.1 (m + 8) (6 * u + k) = I x) (hr : RX τ τ6) (hT : TK σ6 τ6 N bt pl' k' l' n') (hx : 1 ≤ x ∧ x ≤ 999) (hy : 0 ≤ y ∧ y ≤ 99) :
    PRD m (lC m σ6 u k y) (lF τ6 u k x y) W p L V E (dL d u k x y) dl et ∧ TK (lC m σ6 u k y) (lF τ6 u k x y) N bt pl' k' l' n' := by
  obtain ⟨⟨p0, p16, pW0, pW1, pW2⟩, pp, ⟨q1, q2, q3⟩, ⟨nm, q4⟩, q5, ⟨q6, q7⟩, q8⟩ := hP
  have V5 := q1.1
  obtain ⟨σF, hσ⟩ : ∃ s, s = lC m σ6 u k y := ⟨_, rfl⟩
  obtain ⟨τF, hτ⟩ : ∃ s, s = lF τ6 u k x y := ⟨_, rfl⟩
  have f1 : ∀ j, j ≠ 1 → j ≠ m + 6 → j ≠ m + 8 → j ≠ m + 9 → σF.1 j = σ.1 j := fun j g1 g2 g3 g4 => by rw [hσ]; unfold lC; rw [wi_row g2, wi_row g4, c1 j g1 g3]
  have f6 : ∀ i, i ≠ u → σF.1 (m + 6) i = σ.1 (m + 6) i := fun i g1 => by rw [hσ]; unfold lC; rw [wi_ne g1, wi_row (by omega), c1 (m + 6) (by omega) (by omega)]
  have f8 : ∀ i, i ≠ 6 * u + k → σF.1 (m + 8) i = σ.1 (m + 8) i := fun i g1 => by rw [hσ]; unfold lC; rw [wi_row (by omega), wi_row (by omega), c2 i g1]
  have f9 : ∀ i, i ≠ 6 * u + k → σF.1 (m + 9) i = σ.1 (m + 9) i := fun i g1 => by rw [hσ]; unfold lC; rw [wi_row (by omega), wi_ne g1, c1 (m + 9) (by omega) (by omega)]
  have r1 : ∀ j, j ≠ 102 → j ≠ 106 → j ≠ 107 → j ≠ 109 → τF.1 j = τ.1 j := fun j g1 g2 g3 g4 => by rw [hτ]; unfold lF; rw [wi_row g2, wi_row g4, wi_row g3, hr.1 j g1]
  have r2 : τF.1 102 = τ6.1 102 := by rw [hτ]; unfold lF; rw [wi_row (by decide), wi_row (by decide), wi_row (by decide)]
  have r6 : ∀ i, i ≠ 5 * u + 4 → τF.1 106 i = τ.1 106 i := fun i g1 => by rw [hτ]; unfold lF; rw [wi_ne g1, wi_row (by decide), wi_row (by decide), hr.1 106 (by decide)]
  have r7 : ∀ i, i ≠ 6 * u + k → τF.1 107 i = τ.1 107 i := fun i g1 => by rw [hτ]; unfold lF; rw [wi_row (by decide), wi_row (by decide), wi_ne g1, hr.1 107 (by decide)]
  have r9 : ∀ i, i ≠ 6 * u + k → τF.1 109 i = τ.1 109 i := fun i g1 => by rw [hτ]; unfold lF; rw [wi_row (by decide), wi_ne g1, wi_row (by decide), hr.1 109 (by decide)]
  have rl : τF.2 = τ6.2 := by rw [hτ]; rfl
  rw [← hσ, ← hτ]
  constructor
  · refine ⟨⟨by rw [f1 m (by omega) (by omega) (by omega) (by omega)]; exact p0, by rw [r2, hr.2.1 16 (by decide)]; exact p16, pW0, pW1, pW2⟩, fun q => ?_, ⟨MDok_dL q1 hu hk ek hx hy, by rw [f1 m (by omega) (by omega) (by omega) (by omega)]; exact q2, by rw [r2, hr.2.1 19 (by decide)]; exact q3⟩, ⟨nm, NMS_f q4 (f1 3 (by omega) (by omega) (by omega) (by omega)) (by rw [rl, hr.2.2.1 111 (by decide)])⟩, fun v hv => ?_, ⟨fun v g1 g2 => by rw [f6 v (by omega)]; exact q6 v g1 g2, fun v g1 => by rw [f1 (m + 7) (by omega) (by omega) (by omega) (by omega)]; exact q7 v g1⟩, ?_⟩
    · rw [f1 m (by omega) (by omega) (by omega) (by omega), r2, hr.2.1 17 (by decide), hr.2.1 18 (by decide)]
      exact pp q
    · obtain ⟨y1, y2, y3, y4, y5, y6, y7⟩ := q5 v hv
      unfold PV
      rw [f1 (m + 1) (by omega) (by omega) (by omega) (by omega), f1 (m + 2) (by omega) (by omega) (by omega) (by omega), f1 (m + 3) (by omega) (by omega) (by omega) (by omega), f1 (m + 4) (by omega) (by omega) (by omega) (by omega), f1 (m + 5) (by omega) (by omega) (by omega) (by omega), r6 (5 * v) (by omega), r6 (5 * v + 1) (by omega), r6 (5 * v + 2) (by omega), r6 (5 * v + 3) (by omega), r1 110 (by decide) (by decide) (by decide) (by decide)]
      refine ⟨y1, y2, y3, y4, y5, ?_, fun j hj => ?_⟩
      · show σF.1 (m + 6) v = I ((if v = u then k + 1 else d.lv v : Nat) : Int) ∧ τF.1 106 (5 * v + 4) = I ((if v = u then k + 1 else d.lv v : Nat) : Int)
        by_cases q : v = u
        · rw [if_pos q, q]
          refine ⟨?_, ?_⟩
          · rw [hσ]; unfold lC; rw [wi_eq]; rfl
          · rw [hτ]; unfold lF; rw [wi_eq]; rfl
        · rw [if_neg q, f6 v q, r6 (5 * v + 4) (by omega)]
          exact y6
      · have hj : j < (if v = u then k + 1 else d.lv v) := hj
        have lv6 := (q1.2 v hv).2.2.2.2.1
        show (σF.1 (m + 8) (6 * v + j) = I (if 6 * v + j = 6 * u + k then x else d.pr (6 * v + j)) ∧ τF.1 107 (6 * v + j) = I (if 6 * v + j = 6 * u + k then x else d.pr (6 * v + j))) ∧ (σF.1 (m + 9) (6 * v + j) = I (if 6 * v + j = 6 * u + k then y else d.sz (6 * v + j)) ∧ τF.1 109 (6 * v + j) = I (if 6 * v + j = 6 * u + k then y else d.sz (6 * v + j)))
        by_cases q : 6 * v + j = 6 * u + k
        · rw [if_pos q, if_pos q, q]
          refine ⟨⟨?_, ?_⟩, ⟨?_, ?_⟩⟩
          · rw [hσ]; unfold lC; rw [wi_row (by omega), wi_row (by omega)]; exact c3
          · rw [hτ]; unfold lF; simp (disch := omega) only [wi_eq, wi_eq', wi_ne, wi_row, wi_2]
          · rw [hσ]; unfold lC; rw [wi_row (by omega), wi_eq]
          · rw [hτ]; unfold lF; simp (disch := omega) only [wi_eq, wi_eq', wi_ne, wi_row, wi_2]
        · rw [if_neg q, if_neg q, f8 _ q, f9 _ q, r7 _ q, r9 _ q]
          refine y7 j ?_
          by_cases q2 : v = u
          · rw [if_pos q2] at hj
            subst q2
            have ek : d.lv v = k := ek
            omega
          · rw [if_neg q2] at hj; exact hj
    · obtain ⟨x1, x2, x3, x4, x5⟩ := q8
      refine ⟨x1, by rw [f1 m (by omega) (by omega) (by omega) (by omega)]; exact x2, by rw [r2, hr.2.1 20 (by decide)]; exact x3, fun i hi => ?_, x5⟩
      obtain ⟨a, j, z, y1, y2, y3⟩ := x4 i hi
      refine ⟨a, j, z, y1, ?_, ?_⟩
      · show j < (if a = u then k + 1 else d.lv a)
        by_cases q : a = u
        · rw [if_pos q]
          rw [q] at y2
          have ek : d.lv u = k := ek
          omega
        · rw [if_neg q]; exact y2
      · rw [f1 (m + 10) (by omega) (by omega) (by omega) (by omega), f1 (m + 11) (by omega) (by omega) (by omega) (by omega), f1 (m + 12) (by omega) (by omega) (by omega) (by omega), r1 108 (by decide) (by decide) (by decide) (by decide)]
        exact y3
  · refine TK_c hT (fun i _ => ?_) (fun i g1 g2 => by rw [r2]) (by rw [rl])
    rw [hσ]; unfold lC; rw [wi_row (by omega), wi_row (by omega)]
/-- a level's line behind its venue's name -/
theorem lev58_ok {m N pl V E u k : Nat} {bt : Nat → Int} {σ τ : Wd} {kk n W p L a : Int} {l : List Int} {d : MD} {dl et : Nat → Int} (hm : 10 < m) (hB : BY σ τ N bt) (hT : TK σ τ N bt pl kk l n) (hu : u < V) (hk : k < 6) (ek : d.lv u = k) (ha : 0 ≤ a ∧ a ≤ 999) (hP : PRD m σ τ W p L V E d dl et) :
    (∃ (σ' τ' : Wd), f_X5_readLevel_58 m (I (u : Int)) (I (k : Int)) (I a) σ = some (I 0, σ') ∧ f_X7_readLevelLine_74 (I (u : Int)) (I (k : Int)) (I (a + 1)) τ = some (0, τ') ∧ BD σ' τ' ∧ LC m σ σ' ∧ LF τ τ')
    ∨ (∃ (σ' τ' : Wd) (pl' : Nat) (k' : Int) (l' : List Int) (n' : Int) (d' : MD), f_X5_readLevel_58 m (I (u : Int)) (I (k : Int)) (I a) σ = some (I 1, σ') ∧ f_X7_readLevelLine_74 (I (u : Int)) (I (k : Int)) (I (a + 1)) τ = some (0, τ') ∧ PRD m σ' τ' W p L V E d' dl et ∧ TK σ' τ' N bt pl' k' l' n' ∧ pl ≤ pl' ∧ LC m σ σ' ∧ LF τ τ') := by
  have V5 := hP.2.2.1.1.1
  obtain ⟨iv, xv⟩ := wI (show u < 5 by omega)
  have ij : inb (I ((6 * u + k : Nat) : Int)) 30 = true := inI (by omega) (by decide)
  have xj : ix (I ((6 * u + k : Nat) : Int)) = 6 * u + k := ixI (by omega)
  rw [lR_eq, show I a + (1 : Int32) = I (a + 1) from I_add _ 1]
  rcases num1_ok (lo := a + 1) (hi := 999) (K0 := fun σ2 => gd (isb (0 : Int32)) (some ((0 : Int32), σ2))) (K1 := lR1 m (I (u : Int)) (I (k : Int))) (fun _ => rfl) hB hT (by omega) (by omega) with ⟨σ1, τ1, a1, a2, a3, a4, a5⟩ | ⟨σ1, τ1, v1, pl1, k1, l1, n1, a1, a2, a3, a3', a4, a5, a6, a7, a8⟩
  · obtain ⟨f, pf, -, -, hF⟩ := id a3
    have e3 := ft_whole (lo := I 1) (hi := I 99) hF
    obtain ⟨f1, f2, f3, f4, f5⟩ := hF
    refine Or.inl ⟨σ1, τ1, a1, ?_, a3, CGL a4, RXL a5⟩
    unfold f_X7_readLevelLine_74
    simp (disch := omega) only [gd_t, bd_s, nm_W, nm_I, I_add, I_sub, I_mul, I_neg, I_le_t, I_le_f, I_lt_t, I_lt_f, I_eq_t, I_eq_f, I_inb', I_ix', Int.toNat_natCast, decide_true, decide_false, Bool.not_false, Bool.not_true, if_true, if_false, wi_eq, wi_eq', wi_ne, wi_row, wi_2, N0, N1, N2, N3, N4, N5, N6, N7, N8, N9, N10, N11, N12, N13, N14, N15, N16, N17, N18, N19, N20, N21, N22, N23, N24, N25, N26, N27, N28, N29, N30, N31, N32, N33, N34, N35, N36, N37, N38, N39, N40, N41, N42, N43, N45, N48, N57, N59, N88, N89, N97, N99, N120, N121, N122, N179, N200, N255, N300, N400, N880, N900, N999, N1019, N50000000, N100000000, N1000000000, N2147483647, N2147483648, a2, e3, f1]
  · rw [a1]
    unfold lR1
    rw [slot_ok (by omega) hk, bd_s, ij, gd_t, nm_W, xj, a4]
    have hB1 : BY (wi σ1 (m + 8) (6 * u + k) (I v1)) τ1 N bt := BYw (m := m) (BY_f hB a7 a8) (by omega)
    rcases num1_ok (lo := 1) (hi := 99) (K0 := fun σ2 => gd (isb (0 : Int32)) (some ((0 : Int32), σ2))) (K1 := lR2 m (I (u : Int)) (I (k : Int))) (fun _ => rfl) hB1 (TKw (j := m + 8) (i := 6 * u + k) (x := I v1) a5 (by omega)) (by omega) (by omega) with ⟨σ2, τ2, b1, b2, b3, b4, b5⟩ | ⟨σ2, τ2, v2, pl2, k2, l2, n2, b1, b2, b3, b3', b4, b5, b6, b7, b8⟩
    · obtain ⟨f, pf, -, -, hF⟩ := id b3
      obtain ⟨f1, f2, f3, f4, f5⟩ := hF
      refine Or.inl ⟨σ2, τ2, b1, ?_, b3, LCt (CGL a7) (LCt (LCw (by omega)) (CGL b4)), LFt (RXL a8) (RXL b5)⟩
      unfold f_X7_readLevelLine_74
      simp (disch := omega) only [gd_t, bd_s, nm_W, nm_I, I_add, I_sub, I_mul, I_neg, I_le_t, I_le_f, I_lt_t, I_lt_f, I_eq_t, I_eq_f, I_inb', I_ix', Int.toNat_natCast, decide_true, decide_false, Bool.not_false, Bool.not_true, if_true, if_false, wi_eq, wi_eq', wi_ne, wi_row, wi_2, N0, N1, N2, N3, N4, N5, N6, N7, N8, N9, N10, N11, N12, N13, N14, N15, N16, N17, N18, N19, N20, N21, N22, N23, N24, N25, N26, N27, N28, N29, N30, N31, N32, N33, N34, N35, N36, N37, N38, N39, N40, N41, N42, N43, N45, N48, N57, N59, N88, N89, N97, N99, N120, N121, N122, N179, N200, N255, N300, N400, N880, N900, N999, N1019, N50000000, N100000000, N1000000000, N2147483647, N2147483648, a2, b2, f1]
    · rw [b1]
      unfold lR2
      rw [slot_ok (by omega) hk, bd_s, ij, gd_t, nm_W, xj, b4, iv, gd_t, gd_t, nm_W, xv]
      have keyR : RX τ τ2 := RXt a8 b8
      have hlv := (hP.2.2.2.2.1 u hu).2.2.2.2.2.1
      rw [ek] at hlv
      have s6 : (wi σ2 (m + 9) (6 * u + k) (I v2)).1 (m + 6) u = I (k : Int) := by
        rw [wi_row (by omega), b7.1 _ (by omega), wi_row (by omega), a7.1 _ (by omega)]; exact hlv.1
      have r6 : τ2.1 106 (5 * u + 4) = I (k : Int) := by rw [keyR.1 106 (by decide)]; exact hlv.2
      rw [s6, show I (k : Int) + (1 : Int32) = I ((k : Int) + 1) from I_add _ 1]
      obtain ⟨z1, z2⟩ := lev_good (σ := σ) (σ6 := σ2) (x := v1) (y := v2) hm hu hk ek hP (fun j g1 g2 => by rw [b7.1 j g1, wi_row g2, a7.1 j g1]) (fun i g1 => by rw [b7.1 _ (by omega), wi_ne g1, a7.1 _ (by omega)]) (by rw [b7.1 _ (by omega), wi_eq]) keyR b5 ⟨by omega, by omega⟩ ⟨by omega, by omega⟩
      have g33 := (TK_33 b5).1
      refine Or.inr ⟨lC m σ2 u k v2, lF τ2 u k v1 v2, pl2, k2, l2, n2, _, rfl, ?_, z1, z2, by omega, LCt (CGL a7) (LCt (LCw (by omega)) (LCt (CGL b7) (LCt (LCw (by omega)) (LCw (by omega))))), LFt (RXL keyR) (LFt (LFw (by omega)) (LFt (LFw (by omega)) (LFw (by omega))))⟩
      have t1 : ((6 : Int) * (u : Int) + (k : Int)).toNat = 6 * u + k := by omega
      have t2 : ((5 : Int) * (u : Int) + 4).toNat = 5 * u + 4 := by omega
      unfold f_X7_readLevelLine_74 lF
      clear z1 z2 hP hT hB
      simp (disch := omega) only [gd_t, bd_s, nm_W, nm_I, I_add, I_sub, I_mul, I_neg, I_le_t, I_le_f, I_lt_t, I_lt_f, I_eq_t, I_eq_f, I_inb', I_ix', Int.toNat_natCast, decide_true, decide_false, Bool.not_false, Bool.not_true, if_true, if_false, wi_eq, wi_eq', wi_ne, wi_row, wi_2, N0, N1, N2, N3, N4, N5, N6, N7, N8, N9, N10, N11, N12, N13, N14, N15, N16, N17, N18, N19, N20, N21, N22, N23, N24, N25, N26, N27, N28, N29, N30, N31, N32, N33, N34, N35, N36, N37, N38, N39, N40, N41, N42, N43, N45, N48, N57, N59, N88, N89, N97, N99, N120, N121, N122, N179, N200, N255, N300, N400, N880, N900, N999, N1019, N50000000, N100000000, N1000000000, N2147483647, N2147483648, a2, b2, g33, t1, t2, r6]
