/-! PURE: split, whole -/
set_option maxHeartbeats 2000000 in
theorem split_bad {m m' V E : Nat} {σ τ σ' τ' : Wd} {pres kp : Bool} {d : MD} {p L W : Int} {dl pl et : Nat → Int} {b : Bool} {t s rd : Int} {h n g : Nat → Int} {B : Int} (hG : GA m σ τ V E pres kp d p L W dl pl et b t s rd h n g B) (hm : (m = 11 ∧ m' = 24) ∨ (m = 24 ∧ m' = 11)) (hB : BD σ' τ') (hc : LC m' σ σ')
    (hr1 : ∀ k, k ≠ 102 → k < 106 ∨ 110 < k → τ'.1 k = τ.1 k) (hr2 : ∀ i, i < 16 ∨ 20 < i → 0 < i → i < 27 ∨ 33 < i → τ'.1 102 i = τ.1 102 i) (h27 : τ'.1 102 27 = I 0) :
    GA m (wi (wi (wi σ' 1 0 (I 0)) 0 13 ((wi σ' 1 0 (I 0)).1 1 1)) 0 12 (I 4)) (wi (wi τ' 102 1 (I 4)) 102 2 (τ'.1 102 31)) V E pres kp d p L W dl pl et b t s rd h n g B := by
  obtain ⟨g1, g2, ⟨g3, g4⟩, ⟨g5, g6, g7⟩, ⟨g8, g9, g10⟩, ⟨g11, g12⟩, -⟩ := hG
  obtain ⟨f, pf, x1, x2, y1, y2, y3, y4, y5⟩ := hB
  obtain ⟨σF, hσ⟩ : ∃ s, s = wi (wi (wi σ' 1 0 (I 0)) 0 13 ((wi σ' 1 0 (I 0)).1 1 1)) 0 12 (I 4) := ⟨_, rfl⟩
  obtain ⟨τF, hτ⟩ : ∃ s, s = wi (wi τ' 102 1 (I 4)) 102 2 (τ'.1 102 31) := ⟨_, rfl⟩
  have c1 : ∀ k, k ≠ 0 → k ≠ 1 → k ≠ 3 → k < m' ∨ m' + 12 < k → σF.1 k = σ.1 k := fun k a1 a2 a3 a4 => by rw [hσ, wi_row a1, wi_row a1, wi_row a2, hc.1 k a2 a3 a4]
  have c0 : ∀ i, i ≠ 12 → i ≠ 13 → σF.1 0 i = σ.1 0 i := fun i a1 a2 => by rw [hσ, wi_ne a1, wi_ne a2, wi_row (by decide), hc.1 0 (by decide) (by decide) (by omega)]
  have s2 : σF.2 = σ.2 := by rw [hσ]; exact hc.2
  have r1 : ∀ k, k ≠ 102 → k < 106 ∨ 110 < k → τF.1 k = τ.1 k := fun k a1 a2 => by rw [hτ, wi_row a1, wi_row a1, hr1 k a1 a2]
  have r2 : ∀ i, 2 < i → i < 16 ∨ 20 < i → i < 27 ∨ 33 < i → τF.1 102 i = τ.1 102 i := fun i a1 a2 a3 => by rw [hτ, wi_ne (by omega), wi_ne (by omega), hr2 i a2 (by omega) a3]
  rw [← hσ, ← hτ]
  refine ⟨by rw [s2]; exact g1, by rw [s2]; exact g2, ⟨QQ_congr g3 (by omega) (fun k a1 a2 => c1 k (by omega) (by omega) (by omega) (by omega)) (fun k a1 a2 => c1 k (by omega) (by omega) (by omega) (by omega)) (fun i a1 a2 => r2 i (by omega) (by omega) (by omega)) (r1 103 (by decide) (by decide)) (r1 104 (by decide) (by decide)) (r1 105 (by decide) (by decide)) (r1 112 (by decide) (by decide)), g4⟩, ⟨by rw [c0 10 (by decide) (by decide)]; exact g5, by rw [r2 21 (by decide) (by decide) (by decide)]; exact g6, g7⟩,
    ⟨by rw [c0 11 (by decide) (by decide)]; exact g8, by rw [r2 25 (by decide) (by decide) (by decide)]; exact g9, fun q => ⟨(g10 q).1, KK_congr (g10 q).2 (Int.le_refl _) (fun k a1 a2 => c1 k (by omega) (by omega) (by omega) (by omega)) (fun k a1 a2 => c1 k (by omega) (by omega) (by omega) (by omega)) (fun i a1 a2 => r2 i (by omega) (by omega) (by omega)) (r1 103 (by decide) (by decide)) (r1 104 (by decide) (by decide)) (r1 105 (by decide) (by decide)) (r1 113 (by decide) (by decide))⟩⟩,
    ⟨⟨?_, fun _ => ?_, fun q => absurd ?_ q⟩, ?_⟩, ⟨0, by decide, ?_, ?_, fun i hi => absurd hi (by omega)⟩⟩
  · rw [hσ, hτ, wi_ne (by decide), wi_eq, wi_eq]
  · rw [hσ, hτ, wi_eq, wi_row (by decide), wi_row (by decide), wi_ne (by decide), y5, x2]
  · rw [hσ, wi_eq]
  · rw [hσ, hτ, wi_ne (by decide), wi_ne (by decide), wi_ne (by decide), wi_eq, wi_ne (by decide), y1, x1]
  · rw [hσ, wi_row (by decide), wi_row (by decide), wi_eq]; rfl
  · rw [hτ, wi_ne (by decide), wi_ne (by decide)]; exact h27
set_option maxHeartbeats 2000000 in
theorem m_split (x : Int32) : MT (f_X6_split x) (f_X7_split x) := by
  intro σ τ B ⟨m, V, E, pres, kp, d, p, L, W, dl, pl, et, b, t, s, rd, h, n, g, hG⟩ hB
  obtain ⟨a, rfl, ha⟩ := argI x
  obtain ⟨bm, m10, m63⟩ := bMm hG.1
  obtain ⟨tp, t1, t2, t3, t4⟩ := hG.2.2.2.2.2.2
  by_cases c : a < 0 ∨ (tp : Int) < a
  · obtain ⟨e1, e2⟩ := split_no ha c t1 t2 t3
    refine ⟨I (-1), _, _, e1, e2, ⟨m, V, E, pres, kp, d, p, L, W, dl, pl, et, b, t, s, rd, h, n, g, GA_B (GA_q (c := 2) hG (fun k a1 a2 => wi_row a1) (fun i a1 => wi_ne a1) wi_2 (fun k a1 a2 => by rw [wi_row a1, wi_row a1, wi_row a1]) (fun i a1 a2 => by rw [wi_ne (by omega), wi_ne (by omega), wi_ne (by omega)]) wi_eq (by rw [wi_ne (by decide), wi_eq]) wi_eq (by omega)) (by omega)⟩, ⟨fun k hk => by rw [wi_row (by omega)], by rw [wi_2]⟩, ⟨fun k hk => by rw [wi_row (by omega), wi_row (by omega), wi_row (by omega)], by rw [wi_2, wi_2, wi_2]⟩⟩
  · obtain ⟨N, rfl⟩ := Int.eq_ofNat_of_zero_le (show 0 ≤ a by omega)
    obtain ⟨m', hm', mm⟩ : ∃ m', σ.2.2 0 3 = m' ∧ ((m = 11 ∧ m' = 24) ∨ (m = 24 ∧ m' = 11)) := ⟨_, rfl, hG.1⟩
    have bm' : bM m' = true ∧ 10 < m' := by
      rcases mm with ⟨-, q⟩ | ⟨-, q⟩ <;> subst q <;> decide
    obtain ⟨τ0, hτ0⟩ : ∃ s, s = wi (wi (wi (wi (wi τ 102 0 (I 0)) 102 28 (I (N : Int))) 102 27 (I 0)) 102 29 (I 0)) 102 33 (I 0) := ⟨_, rfl⟩
    have r0 : ∀ k, k ≠ 102 → τ0.1 k = τ.1 k := fun k q => by rw [hτ0, wi_row q, wi_row q, wi_row q, wi_row q, wi_row q]
    have v0 : ∀ i, 0 < i → i < 27 ∨ 33 < i → τ0.1 102 i = τ.1 102 i := fun i q1 q2 => by rw [hτ0, wi_ne (by omega), wi_ne (by omega), wi_ne (by omega), wi_ne (by omega), wi_ne (by omega)]
    have s0 : τ0.2 = τ.2 := by rw [hτ0]; rfl
    have z27 : τ0.1 102 27 = I 0 := by rw [hτ0]; simp (disch := omega) only [wi_eq, wi_eq', wi_ne, wi_row, wi_2]
    rcases read_ok (m := m') (N := N) (σ := σ) (τ := τ0) bm'.2 (by omega) (fun i hi => by rw [r0 115 (by decide)]; exact t4 i (by omega)) (by rw [hτ0]; simp (disch := omega) only [wi_eq, wi_eq', wi_ne, wi_row, wi_2]) (by rw [hτ0]; simp (disch := omega) only [wi_eq, wi_eq', wi_ne, wi_row, wi_2]) (by rw [hτ0]; simp (disch := omega) only [wi_eq, wi_eq', wi_ne, wi_row, wi_2]) with ⟨σ1, τ1, q1, q2, q3, q4, q5⟩ | ⟨σ1, τ1, W1, p1, L1, V1, E1, d1, dl1, et1, q1, q2, q3, q4, ⟨q5, q5'⟩, q6, q7⟩
    · obtain ⟨f, pf, -, -, hF⟩ := id q3
      have ec := split_c (show N ≤ tp by omega) t1 t2 hm' bm'.1 q1 q4.2 hG.2.1 bm
      rw [hτ0] at q2
      have er := split_r (show N ≤ tp by omega) t1 t3 q2 hF.1 ⟨by have := hF.2.1; omega, hF.2.2.1⟩
      rw [if_pos (show I 0 = (0 : Int32) from rfl)] at ec
      rw [if_neg (by have := hF.2.1; omega)] at er
      refine ⟨I (-1), _, _, ec, er, ⟨m, V, E, pres, kp, d, p, L, W, dl, pl, et, b, t, s, rd, h, n, g, GA_B (split_bad hG mm q3 q4 (fun k a1 a2 => by rw [q5.1 k a1 a2, r0 k a1]) (fun i a1 a2 a3 => by rw [q5.2.1 i a1 (by omega), v0 i a2 a3]) (by rw [q5.2.1 27 (by decide) (by decide)]; exact z27)) (by omega)⟩, ⟨fun k hk => ?_, ?_⟩, ⟨fun k hk => ?_, ?_⟩⟩
      · rw [wi_row (by omega), wi_row (by omega), wi_row (by omega), q4.1 k (by omega) (by omega) (by omega)]
      · rw [wi_2, wi_2, wi_2, q4.2]
      · rw [wi_row (by omega), wi_row (by omega), q5.1 k (by omega) (by omega), r0 k (by omega)]
      · rw [wi_2, wi_2, q5.2.2, s0]
    · have ec := split_c (show N ≤ tp by omega) t1 t2 hm' bm'.1 q1 q6.2 hG.2.1 bm
      rw [hτ0] at q2
      have er := split_r (show N ≤ tp by omega) t1 t3 q2 q5 ⟨by decide, by decide⟩
      rw [if_neg (show ¬ I 1 = (0 : Int32) by decide)] at ec
      rw [if_pos rfl] at er
      obtain ⟨σ2, hσ2⟩ : ∃ s, s = wr (wr (wi (wi σ1 1 0 (I 0)) 0 13 ((wi σ1 1 0 (I 0)).1 1 1)) 0 3 m) 0 4 m' := ⟨_, rfl⟩
      obtain ⟨σ3, a1, a2, a3, a4, a5, a6⟩ := cRunClr (σ := σ2)
      obtain ⟨τ3, b1, b2, b3, b4, b5, b6, b7, b8, b9, b10⟩ := rOver q3 q4.1
      obtain ⟨σF, hσF⟩ : ∃ s, s = wi (wi (wi σ3 0 10 (I 1)) 0 11 (I 0)) 0 12 (I 0) := ⟨_, rfl⟩
      have sF4 : σF.2.2 0 4 = m' := by rw [hσF]; show σ3.2.2 0 4 = m'; rw [a6, hσ2, wr_eq]
      have sF3 : σF.2.2 0 3 = m := by rw [hσF]; show σ3.2.2 0 3 = m; rw [a6, hσ2, wr_ne (by decide), wr_eq]
      have cF : ∀ k, k ≠ 0 → k ≠ 1 → k < 63 ∨ 72 < k → σF.1 k = σ1.1 k := fun k g1 g2 g3 => by rw [hσF, wi_row g1, wi_row g1, wi_row g1, a5 k g3, hσ2, wr_1, wr_1, wi_row g1, wi_row g2]
      have cR : ∀ k, 63 ≤ k → k ≤ 72 → σF.1 k = σ3.1 k := fun k g1 g2 => by rw [hσF, wi_row (by omega), wi_row (by omega), wi_row (by omega)]
      have hQ : QQ m' 63 σF τ3 V1 E1 d1 p1 L1 W1 dl1 (fun _ => 0) et1 false 0 0 0 (fun _ => 0) (fun _ => 0) (fun _ => 0) :=
        taken_ok bm'.2 q3 q4.1 (fun k g1 g2 => cF k (by omega) (by omega) (by omega)) (fun i hi => by rw [cR 63 (by decide) (by decide)]; exact a2 i hi) (fun v hv => ⟨fun k g1 g2 => by rw [cR k (by omega) (by omega)]; exact (a3 v hv).1 k g1 g2, by rw [cR 70 (by decide) (by decide)]; exact (a3 v hv).2.1, by rw [cR 71 (by decide) (by decide)]; exact (a3 v hv).2.2⟩) (by rw [cR 72 (by decide) (by decide)]; exact a4) b2 b3 b4 b5 b6 b7
      have tB := hG.2.2.1.2
      have t00 := hG.2.2.1.1.2.2.1.2.1.2.2.1
      rw [← hσ2, a1, bd_s, ← hσF, sF4, bm'.1, gd_t] at ec
      rw [b1, bd_s, goodR, bd_s] at er
      have e3 : σF.1 m' 3 = I (V1 : Int) := hQ.1.2.1.1
      rw [e3] at ec
      rw [b2.1] at er
      have wF2 : ∀ i, 2 < i → (wi (wi τ3 102 1 (I 0)) 102 2 (I (-1))).1 102 i = τ3.1 102 i := fun i hi => by rw [wi_ne (by omega), wi_ne (by omega)]
      have wFr : ∀ k, k ≠ 102 → (wi (wi τ3 102 1 (I 0)) 102 2 (I (-1))).1 k = τ3.1 k := fun k hk => by rw [wi_row hk, wi_row hk]
      refine ⟨I (V1 : Int), σF, _, ec, er, ⟨m', V1, E1, true, false, d1, p1, L1, W1, dl1, fun _ => 0, et1, false, 0, 0, 0, fun _ => 0, fun _ => 0, fun _ => 0, by rw [sF3]; omega, sF4, ⟨QQ_congr hQ (by omega) (fun _ _ _ => rfl) (fun _ _ _ => rfl) (fun i g1 g2 => wF2 i (by omega)) (wFr 103 (by decide)) (wFr 104 (by decide)) (wFr 105 (by decide)) (wFr 112 (by decide)), by omega⟩, ⟨?_, ?_, fun q => by cases q⟩, ⟨?_, ?_, fun q => by cases q⟩, ⟨⟨?_, fun q => absurd q ?_, fun _ => wi_eq⟩, ?_⟩, ⟨0, by decide, ?_, ?_, fun i hi => absurd hi (by omega)⟩⟩, ⟨fun k hk => ?_, ?_⟩, ⟨fun k hk => ?_, ?_⟩⟩
      · rw [hσF, wi_ne (by decide), wi_ne (by decide), wi_eq]; rfl
      · rw [wF2 21 (by decide)]; exact b3.2.2.2.1
      · rw [hσF, wi_ne (by decide), wi_eq]; rfl
      · rw [wF2 25 (by decide)]; exact b3.2.2.2.2.1
      · rw [hσF, wi_eq, wi_ne (by decide), wi_eq]
      · rw [hσF, wi_eq]; decide
      · rw [wF2 33 (by decide), b9 33 (by decide) (by decide) (by decide), q5, hσF, wi_ne (by decide), wi_ne (by decide), wi_ne (by decide), a5 0 (by decide), hσ2, wr_1, wr_1, wi_eq, wi_ne (by decide), q5']
      · rw [hσF, wi_row (by decide), wi_row (by decide), wi_row (by decide), a5 1 (by decide), hσ2, wr_1, wr_1, wi_row (by decide), wi_eq]; rfl
      · rw [wF2 27 (by decide), b9 27 (by decide) (by decide) (by decide), q7.2.1 27 (by decide) (by decide)]; exact z27
      · rw [cF k (by omega) (by omega) (by omega), q6.1 k (by omega) (by omega) (by omega)]
      · rw [hσF]; show σ3.2.1 = σ.2.1; rw [a6, hσ2]; show σ1.2.1 = σ.2.1; rw [q6.2]
      · rw [wFr k (by omega), b8 k (by omega) (by omega) (by omega), q7.1 k (by omega) (by omega), r0 k (by omega)]
      · rw [wi_2, wi_2, b10, q7.2.2, s0]
