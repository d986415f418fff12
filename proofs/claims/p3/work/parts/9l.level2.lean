/-! PURE: the text: a level's line, whole -/
theorem RX33 {τ τ' : Wd} {f : Int} {pl : Nat} (h : FT τ' f pl) : ¬ τ'.1 102 33 = (0 : Int32) := by
  obtain ⟨h1, h2, h3, h4, h5⟩ := h
  rw [h1]
  show ¬ I f = I 0
  rw [I_eq (by unfold R; omega) (by unfold R; omega)]
  omega
theorem ft_lev {τ : Wd} {f : Int} {pl : Nat} (h : FT τ f pl) : (bd (f_X7_knownVenue τ) fun r2 σ3 => gd (inb (((5 : Int32) * r2) + (4 : Int32)) 25) (if (σ3.1 102 33) = 0 then (if (σ3.1 106 (ix (((5 : Int32) * r2) + (4 : Int32)))) = (6 : Int32) then (bd (f_X7_flaw (5 : Int32) σ3) fun _ σ4 => (f_X7_readLevelLine_39 r2 (σ3.1 106 (ix (((5 : Int32) * r2) + (4 : Int32)))) σ4)) else (f_X7_readLevelLine_39 r2 (σ3.1 106 (ix (((5 : Int32) * r2) + (4 : Int32)))) σ3)) else (f_X7_readLevelLine_39 r2 (σ3.1 106 (ix (((5 : Int32) * r2) + (4 : Int32)))) σ3))) = some (0, τ) := by
  have n33 := RX33 (τ := τ) h
  rw [ft_known h, bd_s, show inb (((5 : Int32) * I 0) + (4 : Int32)) 25 = true from by decide, gd_t, if_neg n33]
  exact ft_lev39 h
theorem lev39_ok {m N pl V E u k : Nat} {bt : Nat → Int} {σ τ : Wd} {kk n W p L : Int} {l : List Int} {d : MD} {dl et : Nat → Int} (hm : 10 < m) (hB : BY σ τ N bt) (hT : TK σ τ N bt pl kk l n) (h1 : kk = 1) (hu : u < V) (hk : k < 6) (ek : d.lv u = k) (hP : PRD m σ τ W p L V E d dl et) (cs : Wd → Option (Int32 × Wd))
    (hcs : ∀ σ3, cs σ3 = if I (k : Int) ≤ 0 then (f_X5_readLevel_58 m (I (u : Int)) (I (k : Int)) (0 : Int32) σ3) else (bd (f_X6_slot (I (u : Int)) (I (k : Int) - (1 : Int32)) σ3) fun r4 σ5 => gd (inb r4 30) ((f_X5_readLevel_58 m (I (u : Int)) (I (k : Int)) (σ5.1 (m + 8) (ix r4)) σ5)))) :
    (∃ (σ' τ' : Wd), (bd (f_X5_step σ) fun _ σ3 => cs σ3) = some (I 0, σ') ∧ f_X7_readLevelLine_39 (I (u : Int)) (I (k : Int)) τ = some (0, τ') ∧ BD σ' τ' ∧ LC m σ σ' ∧ LF τ τ')
    ∨ (∃ (σ' τ' : Wd) (pl' : Nat) (k' : Int) (l' : List Int) (n' : Int) (d' : MD), (bd (f_X5_step σ) fun _ σ3 => cs σ3) = some (I 1, σ') ∧ f_X7_readLevelLine_39 (I (u : Int)) (I (k : Int)) τ = some (0, τ') ∧ PRD m σ' τ' W p L V E d' dl et ∧ TK σ' τ' N bt pl' k' l' n' ∧ pl ≤ pl' ∧ LC m σ σ' ∧ LF τ τ') := by
  obtain ⟨σ1, τ1, pl1, k1, l1, n1, a1, a2, a3, a4, a5, a6⟩ := step_ok hB hT (by omega)
  have hB1 := BY_f hB (CFG a5) a6
  have hP1 := PRD_f hm hP (CFG a5) a6
  have V5 := hP.2.2.1.1.1
  have g33 := (TK_33 a3).1
  have key : ∃ a : Int, 0 ≤ a ∧ a ≤ 999 ∧ cs σ1 = f_X5_readLevel_58 m (I (u : Int)) (I (k : Int)) (I a) σ1 ∧ f_X7_readLevelLine_39 (I (u : Int)) (I (k : Int)) τ = f_X7_readLevelLine_74 (I (u : Int)) (I (k : Int)) (I (a + 1)) τ1 := by
    by_cases k0 : k = 0
    · refine ⟨0, by omega, by omega, ?_, ?_⟩
      · rw [hcs, if_pos (show I (k : Int) ≤ (0 : Int32) by rw [k0]; decide)]
        rfl
      · unfold f_X7_readLevelLine_39 f_X7_readLevelLine_55
        rw [a2, bd_s, if_pos (show I (k : Int) = (0 : Int32) by rw [k0]; rfl)]
        rfl
    · obtain ⟨j, rfl⟩ : ∃ j, k = j + 1 := ⟨k - 1, by omega⟩
      have hpr := (hP1.2.2.2.2.1 u hu).2.2.2.2.2.2 j (by rw [ek]; omega)
      have hb := (hP1.2.2.1.1.2 u hu).2.2.2.2.2 (6 * u + j) (by omega) (by rw [ek]; omega)
      have kI : I ((j + 1 : Nat) : Int) - (1 : Int32) = I (j : Int) := by
        show I _ - I 1 = _
        rw [I_sub, show ((j + 1 : Nat) : Int) - 1 = (j : Int) by omega]
      refine ⟨d.pr (6 * u + j), by omega, by omega, ?_, ?_⟩
      · rw [hcs, if_neg (show ¬ I ((j + 1 : Nat) : Int) ≤ (0 : Int32) by show ¬ I _ ≤ I 0; rw [I_le (by unfold R; omega) (by unfold R; omega)]; omega), kI, slot_ok (by omega) (by omega), bd_s, show inb (I ((6 * u + j : Nat) : Int)) 30 = true from inI (by omega) (by decide), gd_t, show ix (I ((6 * u + j : Nat) : Int)) = 6 * u + j from ixI (by omega), hpr.1.1]
      · have t1 : ((6 : Int) * (u : Int) + ((j + 1 : Nat) : Int) - 1).toNat = 6 * u + j := by omega
        have e7 := hpr.1.2
        unfold f_X7_readLevelLine_39
        clear hP hP1 hB hB1 hT hcs
        simp (disch := omega) only [gd_t, bd_s, nm_W, nm_I, I_add, I_sub, I_mul, I_neg, I_le_t, I_le_f, I_lt_t, I_lt_f, I_eq_t, I_eq_f, I_inb', I_ix', Int.toNat_natCast, decide_true, decide_false, Bool.not_false, Bool.not_true, if_true, if_false, wi_eq, wi_eq', wi_ne, wi_row, wi_2, N0, N1, N2, N3, N4, N5, N6, N7, N8, N9, N10, N11, N12, N13, N14, N15, N16, N17, N18, N19, N20, N21, N22, N23, N24, N25, N26, N27, N28, N29, N30, N31, N32, N33, N34, N35, N36, N37, N38, N39, N40, N41, N42, N43, N45, N48, N57, N59, N88, N89, N97, N99, N120, N121, N122, N179, N200, N255, N300, N400, N880, N900, N999, N1019, N50000000, N100000000, N1000000000, N2147483647, N2147483648, a2, g33, t1, e7]
  obtain ⟨a, h1, h2, e1, e2⟩ := key
  rw [a1, bd_s, e1, e2]
  rcases lev58_ok hm hB1 a3 hu hk ek ⟨h1, h2⟩ hP1 with ⟨σ2, τ2, q1, q2, q3, q4, q5⟩ | ⟨σ2, τ2, pl2, k2, l2, n2, d2, q1, q2, q3, q4, q5, q6, q7⟩
  · exact Or.inl ⟨σ2, τ2, q1, q2, q3, LCt (CGL (CFG a5)) q4, LFt (RXL a6) q5⟩
  · exact Or.inr ⟨σ2, τ2, pl2, k2, l2, n2, d2, q1, q2, q3, q4, by omega, LCt (CGL (CFG a5)) q6, LFt (RXL a6) q7⟩
theorem level_ok {m N pl V E : Nat} {bt : Nat → Int} {σ τ : Wd} {k n W p L : Int} {l : List Int} {d : MD} {dl et : Nat → Int} (hm : 10 < m) (hB : BY σ τ N bt) (hT : TK σ τ N bt pl k l n) (hk : k = 1) (hP : PRD m σ τ W p L V E d dl et) :
    (∃ (σ' τ' : Wd), (bd (f_X5_opens m (1 : Int32) σ) fun r11 σ12 => if r11 = 0 then (f_X5_readLine_93 m σ12) else (bd (f_X5_readLevel m σ12) fun r13 σ14 => if r13 = 0 then (f_X5_readLine_93 m σ14) else (f_X5_readLine_94 m (1 : Int32) σ14))) = some (I 0, σ') ∧ f_X7_readLevelLine τ = some (0, τ') ∧ BD σ' τ' ∧ LC m σ σ' ∧ LF τ τ')
    ∨ (∃ (σ' τ' : Wd) (pl' : Nat) (k' : Int) (l' : List Int) (n' : Int) (d' : MD), (bd (f_X5_opens m (1 : Int32) σ) fun r11 σ12 => if r11 = 0 then (f_X5_readLine_93 m σ12) else (bd (f_X5_readLevel m σ12) fun r13 σ14 => if r13 = 0 then (f_X5_readLine_93 m σ14) else (f_X5_readLine_94 m (1 : Int32) σ14))) = some (I 1, σ') ∧ f_X7_readLevelLine τ = some (0, τ') ∧ PRD m σ' τ' W p L V E d' dl et ∧ TK σ' τ' N bt pl' k' l' n' ∧ pl ≤ pl' ∧ LC m σ σ' ∧ LF τ τ') := by
  have V5 := hP.2.2.1.1.1
  unfold f_X7_readLevelLine
  rcases opens_ok (x := 0) hm (Or.inl rfl) hB hT hk hP.1.1 hP.1.2.1 ⟨hP.1.2.2.1, hP.1.2.2.2.1⟩ with ⟨σ1, τ1, a1, a2, a3, a4, a5⟩ | ⟨σ1, τ1, pl1, k1, l1, n1, x0, W0, a1, a2, a3, a4, a5, a6⟩
  · obtain ⟨f, pf, -, -, hF⟩ := id a3
    refine Or.inl ⟨σ1, τ1, ?_, ?_, a3, CGL a4, RXL a5⟩
    · rw [show f_X5_opens m (1 : Int32) σ = some (I 0, σ1) from a1, bd_s, if_pos (show I 0 = (0 : Int32) from rfl)]
      rfl
    · rw [show f_X7_begins (0 : Int32) τ = some (0, τ1) from a2, bd_s]
      exact ft_lev hF
  · have hB1 := BY_f hB a5 a6
    have hP1 := PRD_f hm hP a5 a6
    obtain ⟨nm, hN⟩ := hP1.2.2.2.1
    have c3 : σ1.1 m 3 = I (V : Int) := hP1.2.2.1.2.1
    have c19 : τ1.1 102 19 = I (V : Int) := hP1.2.2.1.2.2
    have g33 := (TK_33 a3).1
    rw [show f_X5_opens m (1 : Int32) σ = some (I 1, σ1) from a1, bd_s, if_neg (show ¬ I 1 = (0 : Int32) by decide), show f_X7_begins (0 : Int32) τ = some (0, τ1) from a2, bd_s]
    unfold f_X5_readLevel
    rcases found_ok hm hB1 a3 hN c3 c19 with ⟨σ2, τ2, b1, b2, b3, b4, b5⟩ | ⟨u, hu, k1', b1, b2, b3⟩
    · obtain ⟨f, pf, -, -, hF⟩ := id b3
      have n33 := RX33 (τ := τ) hF
      refine Or.inl ⟨σ2, τ2, ?_, ?_, b3, LCt (CGL a5) (CGL b4), LFt (RXL a6) (RXL b5)⟩
      · rw [b1, bd_s, if_pos (show I 0 = (0 : Int32) from rfl)]
        rfl
      · rw [b2, bd_s, show inb (((5 : Int32) * I 0) + (4 : Int32)) 25 = true from by decide, gd_t, if_neg n33]
        exact ft_lev39 hF
    · obtain ⟨σ2, hσ2⟩ : ∃ s, s = wi σ1 1 10 (I (u : Int)) := ⟨_, rfl⟩
      have g2 : CG σ1 σ2 := by rw [hσ2]; exact CGw
      have t10 : σ2.1 1 10 = I (u : Int) := by rw [hσ2, wi_eq]
      rw [← hσ2] at b1 b3
      have hB2 := BY_f hB1 g2 RXr
      have hP2 := PRD_f hm hP1 g2 RXr
      obtain ⟨iv, xv⟩ := wI (show u < 5 by omega)
      have hlv := (hP2.2.2.2.2.1 u hu).2.2.2.2.2.1
      have l6 := (hP2.2.2.1.1.2 u hu).2.2.2.2.1
      obtain ⟨kk, hkk⟩ : ∃ kk, kk = d.lv u := ⟨_, rfl⟩
      rw [← hkk] at hlv l6
      have t5 : ((5 : Int32) * I (u : Int)) + (4 : Int32) = I ((5 * u + 4 : Nat) : Int) := by
        show I 5 * I (u : Int) + I 4 = _
        rw [I_mul, I_add, show (5 : Int) * (u : Int) + 4 = ((5 * u + 4 : Nat) : Int) by omega]
      have i5 : inb (I ((5 * u + 4 : Nat) : Int)) 25 = true := inI (by omega) (by decide)
      have x5 : ix (I ((5 * u + 4 : Nat) : Int)) = 5 * u + 4 := ixI (by omega)
      rw [b1, bd_s, if_neg (show ¬ I 1 = (0 : Int32) by decide), b2, bd_s, t10, iv, gd_t, xv, hlv.1, t5, i5, gd_t, x5, hlv.2, g33, if_pos (show I 0 = (0 : Int32) from rfl)]
      by_cases c6 : kk = 6
      · obtain ⟨σ3, τ3, q1, q2, q3, q4, q5⟩ := bad_ok (c := 5) b3 (by omega)
        obtain ⟨f, pf, -, -, hF⟩ := id q3
        refine Or.inl ⟨σ3, τ3, ?_, ?_, q3, LCt (CGL a5) (LCt (CGL g2) (CGL q4)), LFt (RXL a6) (RXL q5)⟩
        · rw [if_neg (show ¬ I (kk : Int) < (6 : Int32) by rw [c6]; decide), show f_X5_fails (5 : Int32) σ2 = some (I 0, σ3) from q1, bd_s]
          rfl
        · rw [if_pos (show I (kk : Int) = (6 : Int32) by rw [c6]; rfl), show f_X7_flaw (5 : Int32) τ1 = some (0, τ3) from q2, bd_s]
          exact ft_lev39 hF
      · rw [if_pos (show I (kk : Int) < (6 : Int32) by show I _ < I 6; rw [I_lt (by unfold R; omega) (by unfold R; omega)]; omega), if_neg (show ¬ I (kk : Int) = (6 : Int32) by show ¬ I _ = I 6; rw [I_eq (by unfold R; omega) (by unfold R; omega)]; omega)]
        rcases lev39_ok hm hB2 b3 k1' hu (show kk < 6 by omega) hkk.symm hP2 _ (fun _ => rfl) with ⟨σ3, τ3, q1, q2, q3, q4, q5⟩ | ⟨σ3, τ3, pl3, k3, l3, n3, d3, q1, q2, q3, q4, q5, q6, q7⟩
        · refine Or.inl ⟨σ3, τ3, ?_, q2, q3, LCt (CGL a5) (LCt (CGL g2) q4), LFt (RXL a6) q5⟩
          rw [q1, bd_s, if_pos (show I 0 = (0 : Int32) from rfl)]
          rfl
        · refine Or.inr ⟨σ3, τ3, pl3, k3, l3, n3, d3, ?_, q2, q3, q4, by omega, LCt (CGL a5) (LCt (CGL g2) q6), LFt (RXL a6) q7⟩
          rw [q1, bd_s, if_neg (show ¬ I 1 = (0 : Int32) by decide)]
          rfl
