/-! PURE: the text: an event's line -/
def eR3 (m : Nat) (x2 : Int32) (σ13 : Wd) : Option (Int32 × Wd) := gd (inb x2 10) (nmW (wi σ13 (m + 12) (ix x2) (σ13.1 1 10)) fun σ14 => nmW (wi σ14 m 4 ((σ14.1 m 4) + (1 : Int32))) fun σ15 => gd (isb (1 : Int32)) (some ((1 : Int32), σ15)))
def eR2 (m : Nat) (x2 a : Int32) (σ8 : Wd) : Option (Int32 × Wd) := bd (f_X6_slot a (σ8.1 1 10) σ8) fun r9 σ10 => gd (inb x2 10) (nmW (wi σ10 (m + 11) (ix x2) r9) fun σ11 => bd (f_X5_takesWhole (I 0) (I 99) σ11) fun r12 σ13 => if r12 = 0 then (gd (isb (0 : Int32)) (some ((0 : Int32), σ13))) else eR3 m x2 σ13)
def eR1 (m : Nat) (x2 : Int32) (σ2 : Wd) : Option (Int32 × Wd) := gd (inb x2 10) (nmW (wi σ2 (m + 10) (ix x2) (σ2.1 1 10)) fun σ3 => bd (f_X5_findsVenue m σ3) fun r4 σ5 => if r4 = 0 then (gd (isb (0 : Int32)) (some ((0 : Int32), σ5))) else (bd (f_X5_step σ5) fun _ σ6 => gd (inb (σ5.1 1 10) 5) (bd (f_X5_takesWhole (I 0) ((σ6.1 (m + 6) (ix (σ5.1 1 10))) - (1 : Int32)) σ6) fun r7 σ8 => if r7 = 0 then (gd (isb (0 : Int32)) (some ((0 : Int32), σ8))) else eR2 m x2 (σ5.1 1 10) σ8)))
theorem eR_eq {m : Nat} {x2 s0 : Int32} {σ : Wd} : f_X5_readEvent_16 m x2 s0 σ = bd (f_X5_takesWhole s0 (I 200) σ) fun r1 σ2 => if r1 = 0 then (gd (isb (0 : Int32)) (some ((0 : Int32), σ2))) else eR1 m x2 σ2 := rfl
theorem ft_ev43 {τ : Wd} {f : Int} {pl : Nat} {s1 : Int32} (h : FT τ f pl) : f_X7_readEventLine_43 s1 τ = some (0, τ) := by
  have e1 := ft_whole (lo := s1) (hi := I 200) h
  have e2 := ft_known h
  have e3 := ft_next h
  have e4 : ∀ y : Int32, f_X7_readWhole (I 0) y τ = some (I 0, τ) := fun y => ft_whole h
  obtain ⟨h1, h2, h3, h4, h5⟩ := h
  unfold f_X7_readEventLine_43
  simp (disch := omega) only [gd_t, bd_s, nm_W, nm_I, I_add, I_sub, I_mul, I_neg, I_le_t, I_le_f, I_lt_t, I_lt_f, I_eq_t, I_eq_f, I_inb', I_ix', Int.toNat_natCast, decide_true, decide_false, Bool.not_false, Bool.not_true, if_true, if_false, wi_eq, wi_eq', wi_ne, wi_row, wi_2, N0, N1, N2, N3, N4, N5, N6, N7, N8, N9, N10, N11, N12, N13, N14, N15, N16, N17, N18, N19, N20, N21, N22, N23, N24, N25, N26, N27, N28, N29, N30, N31, N32, N33, N34, N35, N36, N37, N38, N39, N40, N41, N42, N43, N45, N48, N57, N59, N88, N89, N97, N99, N120, N121, N122, N179, N200, N255, N300, N400, N880, N900, N999, N1019, N50000000, N100000000, N1000000000, N2147483647, N2147483648, e1, e2, e3, e4, h1]
/-- the states behind an event's line -/
def eC (m : Nat) (σ : Wd) (E : Nat) (z : Int) : Wd := wi (wi σ (m + 12) E (I z)) m 4 (I ((E : Int) + 1))
def eF (τ : Wd) (E a k : Nat) (t z : Int) : Wd := wi (wi (wi (wi (wi τ 108 (4 * E) (I t)) 108 (4 * E + 1) (I (a : Int))) 108 (4 * E + 2) (I (k : Int))) 108 (4 * E + 3) (I z)) 102 20 (I ((E : Int) + 1))
theorem ev_good {m V E N pl' a k : Nat} {bt : Nat → Int} {σ τ σ6 τ6 : Wd} {W p L t z k' n' : Int} {l' : List Int} {d : MD} {dl et : Nat → Int} (hm : 10 < m) (hE : E < 10) (hW : W ≠ 0) (ha : a < V) (hk : k < d.lv a) (hP : PRD m σ τ W p L V E d dl et)
    (c1 : ∀ j, j ≠ 1 → j ≠ m + 10 → j ≠ m + 11 → σ6.1 j = σ.1 j) (c2 : ∀ i, i ≠ E → σ6.1 (m + 10) i = σ.1 (m + 10) i) (c3 : ∀ i, i ≠ E → σ6.1 (m + 11) i = σ.1 (m + 11) i) (c4 : σ6.1 (m + 10) E = I t) (c5 : σ6.1 (m + 11) E = I ((6 * a + k : Nat) : Int)) (hr : RX τ τ6) (hT : TK σ6 τ6 N bt pl' k' l' n') (ht : 1 ≤ t ∧ t ≤ 200) (ht2 : ∀ i, i + 1 = E → et i ≤ t) (hz : 0 ≤ z ∧ z ≤ 99) :
    PRD m (eC m σ6 E z) (eF τ6 E a k t z) W p L V (E + 1) d dl (fun j => if j = E then t else et j) ∧ TK (eC m σ6 E z) (eF τ6 E a k t z) N bt pl' k' l' n' := by
  obtain ⟨⟨p0, p16, pW0, pW1, pW2⟩, pp, ⟨q1, q2, q3⟩, ⟨nm, q4⟩, q5, ⟨q6, q7⟩, q8⟩ := hP
  obtain ⟨σF, hσ⟩ : ∃ s, s = eC m σ6 E z := ⟨_, rfl⟩
  obtain ⟨τF, hτ⟩ : ∃ s, s = eF τ6 E a k t z := ⟨_, rfl⟩
  have f1 : ∀ j, j ≠ 1 → j ≠ m → j < m + 10 ∨ m + 12 < j → σF.1 j = σ.1 j := fun j g1 g2 g3 => by rw [hσ]; unfold eC; rw [wi_row g2, wi_row (by omega), c1 j g1 (by omega) (by omega)]
  have fm : ∀ i, i ≠ 4 → σF.1 m i = σ.1 m i := fun i g1 => by rw [hσ]; unfold eC; rw [wi_ne g1, wi_row (by omega), c1 m (by omega) (by omega) (by omega)]
  have f10 : ∀ i, i ≠ E → σF.1 (m + 10) i = σ.1 (m + 10) i := fun i g1 => by rw [hσ]; unfold eC; rw [wi_row (by omega), wi_row (by omega), c2 i g1]
  have f11 : ∀ i, i ≠ E → σF.1 (m + 11) i = σ.1 (m + 11) i := fun i g1 => by rw [hσ]; unfold eC; rw [wi_row (by omega), wi_row (by omega), c3 i g1]
  have f12 : ∀ i, i ≠ E → σF.1 (m + 12) i = σ.1 (m + 12) i := fun i g1 => by rw [hσ]; unfold eC; rw [wi_row (by omega), wi_ne g1, c1 (m + 12) (by omega) (by omega) (by omega)]
  have r1 : ∀ j, j ≠ 102 → j ≠ 108 → τF.1 j = τ.1 j := fun j g1 g2 => by rw [hτ]; unfold eF; rw [wi_row g1, wi_row g2, wi_row g2, wi_row g2, wi_row g2, hr.1 j g1]
  have r2 : ∀ i, i ≠ 20 → τF.1 102 i = τ6.1 102 i := fun i g1 => by rw [hτ]; unfold eF; rw [wi_ne g1, wi_row (by decide), wi_row (by decide), wi_row (by decide), wi_row (by decide)]
  have r8 : ∀ i, i < 4 * E → τF.1 108 i = τ.1 108 i := fun i g1 => by rw [hτ]; unfold eF; rw [wi_row (by decide), wi_ne (by omega), wi_ne (by omega), wi_ne (by omega), wi_ne (by omega), hr.1 108 (by decide)]
  have rl : τF.2 = τ6.2 := by rw [hτ]; rfl
  rw [← hσ, ← hτ]
  constructor
  · refine ⟨⟨by rw [fm 0 (by decide)]; exact p0, by rw [r2 16 (by decide), hr.2.1 16 (by decide)]; exact p16, pW0, pW1, fun q => absurd q hW⟩, fun q => ?_, ⟨q1, by rw [fm 3 (by decide)]; exact q2, by rw [r2 19 (by decide), hr.2.1 19 (by decide)]; exact q3⟩, ⟨nm, NMS_f q4 (f1 3 (by omega) (by omega) (by omega)) (by rw [rl, hr.2.2.1 111 (by decide)])⟩, fun v hv => PV_f (q5 v hv) (fun j g1 g2 => f1 j (by omega) (by omega) (by omega)) (fun j g1 g2 g3 => r1 j (by omega) g3), ⟨fun v g1 g2 => by rw [f1 (m + 6) (by omega) (by omega) (by omega)]; exact q6 v g1 g2, fun v g1 => by rw [f1 (m + 7) (by omega) (by omega) (by omega)]; exact q7 v g1⟩, ?_⟩
    · rw [fm 1 (by decide), fm 2 (by decide), r2 17 (by decide), r2 18 (by decide), hr.2.1 17 (by decide), hr.2.1 18 (by decide)]
      exact pp q
    · obtain ⟨x1, x2, x3, x4, x5⟩ := q8
      refine ⟨by omega, by rw [hσ]; unfold eC; rw [wi_eq]; rfl, by rw [hτ]; unfold eF; rw [wi_eq]; rfl, fun i hi => ?_, fun i hi => ?_⟩
      · show ∃ (a k : Nat) (z : Int), a < V ∧ k < d.lv a ∧ 0 ≤ z ∧ z ≤ 99 ∧ 1 ≤ (if i = E then t else et i) ∧ (if i = E then t else et i) ≤ 200 ∧ σF.1 (m + 10) i = I (if i = E then t else et i) ∧ τF.1 108 (4 * i) = I (if i = E then t else et i) ∧ σF.1 (m + 11) i = I ((6 * a + k : Nat) : Int) ∧ τF.1 108 (4 * i + 1) = I (a : Int) ∧ τF.1 108 (4 * i + 2) = I (k : Int) ∧ σF.1 (m + 12) i = I z ∧ τF.1 108 (4 * i + 3) = I z
        by_cases q : i = E
        · subst q
          rw [if_pos rfl]
          refine ⟨a, k, z, ha, hk, hz.1, hz.2, ht.1, ht.2, ?_, ?_, ?_, ?_, ?_, ?_, ?_⟩
          · rw [hσ]; unfold eC; rw [wi_row (by omega), wi_row (by omega)]; exact c4
          · rw [hτ]; unfold eF; simp (disch := omega) only [wi_eq, wi_eq', wi_ne, wi_row, wi_2]
          · rw [hσ]; unfold eC; rw [wi_row (by omega), wi_row (by omega)]; exact c5
          · rw [hτ]; unfold eF; simp (disch := omega) only [wi_eq, wi_eq', wi_ne, wi_row, wi_2]
          · rw [hτ]; unfold eF; simp (disch := omega) only [wi_eq, wi_eq', wi_ne, wi_row, wi_2]
          · rw [hσ]; unfold eC; rw [wi_row (by omega), wi_eq]
          · rw [hτ]; unfold eF; simp (disch := omega) only [wi_eq, wi_eq', wi_ne, wi_row, wi_2]
        · rw [if_neg q, f10 i q, f11 i q, f12 i q, r8 (4 * i) (by omega), r8 (4 * i + 1) (by omega), r8 (4 * i + 2) (by omega), r8 (4 * i + 3) (by omega)]
          exact x4 i (by omega)
      · show (if i = E then t else et i) ≤ (if i + 1 = E then t else et (i + 1))
        rw [if_neg (by omega)]
        by_cases q : i + 1 = E
        · rw [if_pos q]; exact ht2 i q
        · rw [if_neg q]; exact x5 i (by omega)
  · refine TK_c hT (fun i _ => ?_) (fun i g1 g2 => r2 i (by omega)) (by rw [rl])
    rw [hσ]; unfold eC; rw [wi_row (by omega), wi_row (by omega)]
set_option maxHeartbeats 2000000 in
/-- an event's line behind its first word; lo: what its time is at least -/
theorem ev16_ok {m N pl V E : Nat} {bt : Nat → Int} {σ τ : Wd} {kk n W p L lo : Int} {l : List Int} {d : MD} {dl et : Nat → Int} (hm : 10 < m) (hB : BY σ τ N bt) (hT : TK σ τ N bt pl kk l n) (hE : E < 10) (hW : W ≠ 0) (hlo : 1 ≤ lo ∧ lo ≤ 200) (hlo2 : ∀ i, i + 1 = E → et i ≤ lo) (hP : PRD m σ τ W p L V E d dl et) :
    (∃ (σ' τ' : Wd), f_X5_readEvent_16 m (I (E : Int)) (I lo) σ = some (I 0, σ') ∧ f_X7_readEventLine_43 (I lo) τ = some (0, τ') ∧ BD σ' τ' ∧ LC m σ σ' ∧ LF τ τ')
    ∨ (∃ (σ' τ' : Wd) (pl' : Nat) (k' : Int) (l' : List Int) (n' : Int) (et' : Nat → Int), f_X5_readEvent_16 m (I (E : Int)) (I lo) σ = some (I 1, σ') ∧ f_X7_readEventLine_43 (I lo) τ = some (0, τ') ∧ PRD m σ' τ' W p L V (E + 1) d dl et' ∧ TK σ' τ' N bt pl' k' l' n' ∧ pl ≤ pl' ∧ LC m σ σ' ∧ LF τ τ') := by
  have V5 := hP.2.2.1.1.1
  have iv : inb (I (E : Int)) 10 = true := inI (by omega) (by decide)
  have xv : ix (I (E : Int)) = E := ixI (by omega)
  rw [eR_eq]
  rcases num1_ok (lo := lo) (hi := 200) (K0 := fun σ2 => gd (isb (0 : Int32)) (some ((0 : Int32), σ2))) (K1 := eR1 m (I (E : Int))) (fun _ => rfl) hB hT (by omega) (by omega) with ⟨σ1, τ1, a1, a2, a3, a4, a5⟩ | ⟨σ1, τ1, v1, pl1, k1, l1, n1, a1, a2, a3, a3', a4, a5, a6, a7, a8⟩
  · obtain ⟨f, pf, -, -, hF⟩ := id a3
    have e2 := ft_known hF
    have e3 := ft_next hF
    have e4 : ∀ y : Int32, f_X7_readWhole (I 0) y τ1 = some (I 0, τ1) := fun y => ft_whole hF
    obtain ⟨f1, f2, f3, f4, f5⟩ := hF
    refine Or.inl ⟨σ1, τ1, a1, ?_, a3, CGL a4, RXL a5⟩
    unfold f_X7_readEventLine_43
    simp (disch := omega) only [gd_t, bd_s, nm_W, nm_I, I_add, I_sub, I_mul, I_neg, I_le_t, I_le_f, I_lt_t, I_lt_f, I_eq_t, I_eq_f, I_inb', I_ix', Int.toNat_natCast, decide_true, decide_false, Bool.not_false, Bool.not_true, if_true, if_false, wi_eq, wi_eq', wi_ne, wi_row, wi_2, N0, N1, N2, N3, N4, N5, N6, N7, N8, N9, N10, N11, N12, N13, N14, N15, N16, N17, N18, N19, N20, N21, N22, N23, N24, N25, N26, N27, N28, N29, N30, N31, N32, N33, N34, N35, N36, N37, N38, N39, N40, N41, N42, N43, N45, N48, N57, N59, N88, N89, N97, N99, N120, N121, N122, N179, N200, N255, N300, N400, N880, N900, N999, N1019, N50000000, N100000000, N1000000000, N2147483647, N2147483648, a2, e2, e3, e4, f1]
  · rw [a1]
    unfold eR1
    rw [iv, gd_t, nm_W, xv, a4]
    obtain ⟨σ2, hσ2⟩ : ∃ s, s = wi σ1 (m + 10) E (I v1) := ⟨_, rfl⟩
    have g2 : ∀ j, j ≠ m + 10 → σ2.1 j = σ1.1 j := fun j h => by rw [hσ2, wi_row h]
    have hB2 : BY σ2 τ1 N bt := by rw [hσ2]; exact BYw (m := m) (BY_f hB a7 a8) (by omega)
    have hT2 : TK σ2 τ1 N bt pl1 k1 l1 n1 := by rw [hσ2]; exact TKw a5 (by omega)
    have l2 : LC m σ1 σ2 := by rw [hσ2]; exact LCw (by omega)
    have hP1 := PRD_f hm hP a7 a8
    obtain ⟨nm, hN⟩ := hP1.2.2.2.1
    have c3 : σ2.1 m 3 = I (V : Int) := by rw [g2 m (by omega)]; exact hP1.2.2.1.2.1
    have c19 : τ1.1 102 19 = I (V : Int) := hP1.2.2.1.2.2
    rw [← hσ2]
    rcases found_ok hm hB2 hT2 (NMS_f hN (g2 3 (by omega)) rfl) c3 c19 with ⟨σ3, τ3, b1, b2, b3, b4, b5⟩ | ⟨u, hu, k1', b1, b2, b3⟩
    · obtain ⟨f, pf, -, -, hF⟩ := id b3
      have e3 := ft_next hF
      have e4 : ∀ y : Int32, f_X7_readWhole (I 0) y τ3 = some (I 0, τ3) := fun y => ft_whole hF
      obtain ⟨f1, f2, f3, f4, f5⟩ := hF
      refine Or.inl ⟨σ3, τ3, ?_, ?_, b3, LCt (CGL a7) (LCt l2 (CGL b4)), LFt (RXL a8) (RXL b5)⟩
      · rw [b1, bd_s, if_pos (show I 0 = (0 : Int32) from rfl)]
        rfl
      · unfold f_X7_readEventLine_43
        simp (disch := omega) only [gd_t, bd_s, nm_W, nm_I, I_add, I_sub, I_mul, I_neg, I_le_t, I_le_f, I_lt_t, I_lt_f, I_eq_t, I_eq_f, I_inb', I_ix', Int.toNat_natCast, decide_true, decide_false, Bool.not_false, Bool.not_true, if_true, if_false, wi_eq, wi_eq', wi_ne, wi_row, wi_2, N0, N1, N2, N3, N4, N5, N6, N7, N8, N9, N10, N11, N12, N13, N14, N15, N16, N17, N18, N19, N20, N21, N22, N23, N24, N25, N26, N27, N28, N29, N30, N31, N32, N33, N34, N35, N36, N37, N38, N39, N40, N41, N42, N43, N45, N48, N57, N59, N88, N89, N97, N99, N120, N121, N122, N179, N200, N255, N300, N400, N880, N900, N999, N1019, N50000000, N100000000, N1000000000, N2147483647, N2147483648, a2, b2, e3, e4, f1]
    · obtain ⟨σ3, hσ3⟩ : ∃ s, s = wi σ2 1 10 (I (u : Int)) := ⟨_, rfl⟩
      have g3 : CG σ2 σ3 := by rw [hσ3]; exact CGw
      have t10 : σ3.1 1 10 = I (u : Int) := by rw [hσ3, wi_eq]
      rw [← hσ3] at b1 b3
      have hB3 := BY_f hB2 g3 RXr
      obtain ⟨iu, xu⟩ := wI (show u < 5 by omega)
      obtain ⟨σ4, τ4, pl4, k4, l4, n4, d1, d2, d3, d4, d5, d6⟩ := step_ok hB3 b3 (by omega)
      have hB4 := BY_f hB3 (CFG d5) d6
      have hlv := (hP.2.2.2.2.1 u hu).2.2.2.2.2.1
      have l6 := (hP.2.2.1.1.2 u hu).2.2.2.2.1
      have s6 : σ4.1 (m + 6) u = I (d.lv u : Int) := by rw [d5.1 _ (by omega), g3.1 _ (by omega), g2 _ (by omega), a7.1 _ (by omega)]; exact hlv.1
      have r6 : τ4.1 106 (5 * u + 4) = I (d.lv u : Int) := by rw [d6.1 106 (by decide), a8.1 106 (by decide)]; exact hlv.2
      have t5 : ((5 : Int) * (u : Int) + 4).toNat = 5 * u + 4 := by omega
      rw [b1, bd_s, if_neg (show ¬ I 1 = (0 : Int32) by decide), d1, bd_s, t10, iu, gd_t, xu, s6, show I (d.lv u : Int) - (1 : Int32) = I ((d.lv u : Int) - 1) from I_sub _ 1]
      obtain ⟨q, hq⟩ : ∃ q : Nat, q = d.lv u := ⟨_, rfl⟩
      have l6 : d.lv u ≤ 6 := l6
      rw [← hq] at l6 s6 r6 ⊢
      rcases num1_ok (lo := 0) (hi := (q : Int) - 1) (K0 := fun σ2 => gd (isb (0 : Int32)) (some ((0 : Int32), σ2))) (K1 := eR2 m (I (E : Int)) (I (u : Int))) (fun _ => rfl) hB4 d3 (by omega) (by omega) with ⟨σ5, τ5, i1, i2, i3, i4, i5⟩ | ⟨σ5, τ5, v5, pl5, k5, l5, n5, i1, i2, i3, i3', i4, i5, i6, i7, i8⟩
      · obtain ⟨f, pf, -, -, hF⟩ := id i3
        have e4 := ft_whole (lo := I 0) (hi := I 99) hF
        obtain ⟨f1, f2, f3, f4, f5⟩ := hF
        refine Or.inl ⟨σ5, τ5, i1, ?_, i3, LCt (CGL a7) (LCt l2 (LCt (CGL g3) (LCt (CGL (CFG d5)) (CGL i4)))), LFt (RXL a8) (LFt (RXL d6) (RXL i5))⟩
        unfold f_X7_readEventLine_43
        clear hP hP1 hB hB2 hB3 hB4 hT hT2
        simp (disch := omega) only [gd_t, bd_s, nm_W, nm_I, I_add, I_sub, I_mul, I_neg, I_le_t, I_le_f, I_lt_t, I_lt_f, I_eq_t, I_eq_f, I_inb', I_ix', Int.toNat_natCast, decide_true, decide_false, Bool.not_false, Bool.not_true, if_true, if_false, wi_eq, wi_eq', wi_ne, wi_row, wi_2, N0, N1, N2, N3, N4, N5, N6, N7, N8, N9, N10, N11, N12, N13, N14, N15, N16, N17, N18, N19, N20, N21, N22, N23, N24, N25, N26, N27, N28, N29, N30, N31, N32, N33, N34, N35, N36, N37, N38, N39, N40, N41, N42, N43, N45, N48, N57, N59, N88, N89, N97, N99, N120, N121, N122, N179, N200, N255, N300, N400, N880, N900, N999, N1019, N50000000, N100000000, N1000000000, N2147483647, N2147483648, a2, b2, d2, t5, r6, i2, e4, f1]
      · obtain ⟨j, rfl⟩ := Int.eq_ofNat_of_zero_le i3
        rw [i1]
        unfold eR2
        rw [i4, slot_ok (by omega) (by omega), bd_s, iv, gd_t, nm_W, xv]
        have hB5 : BY (wi σ5 (m + 11) E (I ((6 * u + j : Nat) : Int))) τ5 N bt := BYw (m := m) (BY_f hB4 i7 i8) (by omega)
        rcases num1_ok (lo := 0) (hi := 99) (K0 := fun σ2 => gd (isb (0 : Int32)) (some ((0 : Int32), σ2))) (K1 := eR3 m (I (E : Int))) (fun _ => rfl) hB5 (TKw (j := m + 11) (i := E) (x := I ((6 * u + j : Nat) : Int)) i5 (by omega)) (by omega) (by omega) with ⟨σ6, τ6, j1, j2, j3, j4, j5⟩ | ⟨σ6, τ6, v6, pl6, k6, l6', n6, j1, j2, j3, j3', j4, j5, j6, j7, j8⟩
        · obtain ⟨f, pf, -, -, hF⟩ := id j3
          obtain ⟨f1, f2, f3, f4, f5⟩ := hF
          refine Or.inl ⟨σ6, τ6, j1, ?_, j3, LCt (CGL a7) (LCt l2 (LCt (CGL g3) (LCt (CGL (CFG d5)) (LCt (CGL i7) (LCt (LCw (by omega)) (CGL j4)))))), LFt (RXL a8) (LFt (RXL d6) (LFt (RXL i8) (RXL j5)))⟩
          unfold f_X7_readEventLine_43
          clear hP hP1 hB hB2 hB3 hB4 hB5 hT hT2
          simp (disch := omega) only [gd_t, bd_s, nm_W, nm_I, I_add, I_sub, I_mul, I_neg, I_le_t, I_le_f, I_lt_t, I_lt_f, I_eq_t, I_eq_f, I_inb', I_ix', Int.toNat_natCast, decide_true, decide_false, Bool.not_false, Bool.not_true, if_true, if_false, wi_eq, wi_eq', wi_ne, wi_row, wi_2, N0, N1, N2, N3, N4, N5, N6, N7, N8, N9, N10, N11, N12, N13, N14, N15, N16, N17, N18, N19, N20, N21, N22, N23, N24, N25, N26, N27, N28, N29, N30, N31, N32, N33, N34, N35, N36, N37, N38, N39, N40, N41, N42, N43, N45, N48, N57, N59, N88, N89, N97, N99, N120, N121, N122, N179, N200, N255, N300, N400, N880, N900, N999, N1019, N50000000, N100000000, N1000000000, N2147483647, N2147483648, a2, b2, d2, t5, r6, i2, j2, f1]
        · rw [j1]
          unfold eR3
          rw [iv, gd_t, nm_W, xv, j4, nm_W]
          have keyR : RX τ τ6 := RXt a8 (RXt d6 (RXt i8 j8))
          have em : (wi σ6 (m + 12) E (I v6)).1 m 4 = I (E : Int) := by
            rw [wi_row (by omega), j7.1 m (by omega), wi_row (by omega), i7.1 m (by omega), d5.1 m (by omega), g3.1 m (by omega), g2 m (by omega), a7.1 m (by omega)]
            exact hP.2.2.2.2.2.2.2.1
          have e20 : τ6.1 102 20 = I (E : Int) := by rw [keyR.2.1 20 (by decide)]; exact hP.2.2.2.2.2.2.2.2.1
          rw [em, show I (E : Int) + (1 : Int32) = I ((E : Int) + 1) from I_add _ 1]
          obtain ⟨z1, z2⟩ := ev_good (σ := σ) (σ6 := σ6) (a := u) (k := j) (t := v1) (z := v6) hm hE hW hu (by rw [← hq]; omega) hP
            (fun x g1 g2' g3' => by rw [j7.1 x g1, wi_row g3', i7.1 x g1, d5.1 x g1, g3.1 x g1, g2 x g2', a7.1 x g1])
            (fun i g1 => by rw [j7.1 _ (by omega), wi_row (by omega), i7.1 _ (by omega), d5.1 _ (by omega), g3.1 _ (by omega), hσ2, wi_ne g1, a7.1 _ (by omega)])
            (fun i g1 => by rw [j7.1 _ (by omega), wi_ne g1, i7.1 _ (by omega), d5.1 _ (by omega), g3.1 _ (by omega), g2 _ (by omega), a7.1 _ (by omega)])
            (by rw [j7.1 _ (by omega), wi_row (by omega), i7.1 _ (by omega), d5.1 _ (by omega), g3.1 _ (by omega), hσ2, wi_eq])
            (by rw [j7.1 _ (by omega), wi_eq]) keyR j5 ⟨by omega, by omega⟩ (fun i hi => by have := hlo2 i hi; omega) ⟨j3, j3'⟩
          have g33 := (TK_33 j5).1
          refine Or.inr ⟨eC m σ6 E v6, eF τ6 E u j v1 v6, pl6, k6, l6', n6, _, rfl, ?_, z1, z2, by omega, LCt (CGL a7) (LCt l2 (LCt (CGL g3) (LCt (CGL (CFG d5)) (LCt (CGL i7) (LCt (LCw (by omega)) (LCt (CGL j7) (LCt (LCw (by omega)) (LCw (by omega))))))))), LFt (RXL keyR) (LFt (LFw (by omega)) (LFt (LFw (by omega)) (LFt (LFw (by omega)) (LFt (LFw (by omega)) (LFv (by omega))))))⟩
          have t0 : ((4 : Int) * (E : Int)).toNat = 4 * E := by omega
          have t1 : ((4 : Int) * (E : Int) + 1).toNat = 4 * E + 1 := by omega
          have t2 : ((4 : Int) * (E : Int) + 2).toNat = 4 * E + 2 := by omega
          have t3 : ((4 : Int) * (E : Int) + 3).toNat = 4 * E + 3 := by omega
          have vj : I ((j : Nat) : Int) = I (j : Int) := rfl
          unfold f_X7_readEventLine_43 eF
          clear z1 z2 hP hP1 hB hB2 hB3 hB4 hB5 hT hT2
          simp (disch := omega) only [gd_t, bd_s, nm_W, nm_I, I_add, I_sub, I_mul, I_neg, I_le_t, I_le_f, I_lt_t, I_lt_f, I_eq_t, I_eq_f, I_inb', I_ix', Int.toNat_natCast, decide_true, decide_false, Bool.not_false, Bool.not_true, if_true, if_false, wi_eq, wi_eq', wi_ne, wi_row, wi_2, N0, N1, N2, N3, N4, N5, N6, N7, N8, N9, N10, N11, N12, N13, N14, N15, N16, N17, N18, N19, N20, N21, N22, N23, N24, N25, N26, N27, N28, N29, N30, N31, N32, N33, N34, N35, N36, N37, N38, N39, N40, N41, N42, N43, N45, N48, N57, N59, N88, N89, N97, N99, N120, N121, N122, N179, N200, N255, N300, N400, N880, N900, N999, N1019, N50000000, N100000000, N1000000000, N2147483647, N2147483648, a2, b2, d2, t5, r6, i2, j2, g33, e20, t0, t1, t2, t3]
