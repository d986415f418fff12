/-! PURE: order -/
theorem CV_c0 {m V : Nat} {σ : Wd} {d : MD} {x : Int32} (h : CV m σ V d) : CV m (wi σ m 0 x) V d := by
  unfold CV at h ⊢
  rw [wi_ne (show 3 ≠ 0 by decide), wi_row (show m + 1 ≠ m by omega), wi_row (show m + 2 ≠ m by omega), wi_row (show m + 3 ≠ m by omega), wi_row (show m + 4 ≠ m by omega), wi_row (show m + 6 ≠ m by omega), wi_row (show m + 8 ≠ m by omega), wi_row (show m + 9 ≠ m by omega)]
  exact h
theorem c_order {σ : Wd} {q a : Int} {b : Bool} (e : f_X6_within (I q) (I 1) (I 120) σ = some (I a, σ)) (h : σ.1 63 0 = I (bn b)) : f_X6_order (I q) σ = f_X6_order_24 (I q) (I 1) (I a) (I (bn (!b))) σ := by
  cases b with
  | false =>
    have h : σ.1 63 0 = (0 : Int32) := h
    unfold f_X6_order
    rw [show (1 : Int32) = I 1 from rfl, show (120 : Int32) = I 120 from rfl, e, bd_s, if_pos h]
    rfl
  | true =>
    have h : ¬ σ.1 63 0 = (0 : Int32) := by rw [h]; decide
    unfold f_X6_order
    rw [show (1 : Int32) = I 1 from rfl, show (120 : Int32) = I 120 from rfl, e, bd_s, if_neg h]
    rfl
theorem m_order (x : Int32) : MT (f_X6_order x) (f_X7_order x) := by
  intro σ τ B ⟨m, V, E, pres, kp, d, p, L, W, dl, pl, et, b, t, s, rd, h, n, g, hG⟩ hB
  obtain ⟨q, rfl, hq⟩ := argI x
  obtain ⟨bm, m10, m63⟩ := bMm hG.1
  have hQ := hG.2.2.1.1
  have c1 := cWithin (σ := σ) (lo := 1) (hi := 120) hq (by unfold R; omega) (by unfold R; omega)
  have c2 := rIn (σ := wi τ 102 0 (I 0)) (lo := 1) (hi := 120) hq (by unfold R; omega) (by unfold R; omega)
  have er := order_r (q := q) hG.2.2.2.1.2.1 (bn_bnd pres) c2 (bn_bnd _) hQ.2.2.1.1.2 (bn_bnd b) hQ.1.2.2.2.2.2.1.2.1
  obtain ⟨x, σ', τ', k1, k2, k3⟩ := act_ok (B' := B + 200) (a := 1) (nn := bn (decide (1 ≤ q ∧ q ≤ 120))) (ss := bn (!b)) (low := I (-1)) (K := fun σ2 => gd (bM (σ2.2.2 0 4)) (gd (bM (σ2.2.2 0 4)) (nmW (wi σ2 (σ2.2.2 0 4) 0 (I q)) fun σ5 => some (σ2.1 (σ2.2.2 0 4) 0, σ5)))) (fr := f_X7_order (I q))
    hG (by omega) (by omega) (bn_bnd _) (bn_bnd _)
    (fun hc => by
      rw [er]
      rcases tc_cases (pres := pres) (a := 1) (n := bn (decide (1 ≤ q ∧ q ≤ 120))) (s := bn (!b)) with ⟨q1, q2⟩ | ⟨-, q2, -⟩ | ⟨q1, -, q2, q3⟩ | ⟨q1, -, q2, q3, q4⟩ | ⟨-, -, -, -, q2⟩
      · rw [q2, if_pos (by rw [q1]; rfl)]; rfl
      · omega
      · rw [q3, if_neg (by rw [q1]; decide), if_pos q2]; rfl
      · rw [q4, if_neg (by rw [q1]; decide), if_neg q2, if_pos (by cases b with
          | true => rfl
          | false => cases q3)]; rfl
      · exact absurd q2 hc)
    (fun hp _ hn hs => by
      have y := bn_1 hn
      have m24 : m = 11 ∨ m = 24 := by have := hG.1; omega
      have bf : b = false := by
        cases e : b with
        | true => rw [e] at hs; cases hs
        | false => rfl
      subst bf
      rw [if_neg (by rw [hp]; decide), if_neg (by omega), if_neg (by decide)] at er
      have hm : (wi σ 0 12 (I 0)).2.2 0 4 = m := hG.2.1
      obtain ⟨hM, hE, hR, hN, hP, hL, hn, hrd, hb, hz⟩ := hQ
      obtain ⟨a1, a2, a3, a4, a5, a6, a7, a8⟩ := hM
      obtain ⟨τ', hτ'⟩ : ∃ x, x = wi (wi (wi (wi τ 102 0 (I 0)) 112 35 (I q)) 102 1 (I 0)) 102 2 (I (-1)) := ⟨_, rfl⟩
      obtain ⟨σ', hσ'⟩ : ∃ x, x = wi (wi σ 0 12 (I 0)) m 0 (I q) := ⟨_, rfl⟩
      have fc : ∀ k, k ≠ 0 → k ≠ m → σ'.1 k = σ.1 k := fun k g1 g2 => by rw [hσ', wi_row g2, wi_row g1]
      have fm : ∀ i, i ≠ 0 → σ'.1 m i = σ.1 m i := fun i g1 => by rw [hσ', wi_ne g1, wi_row (by omega)]
      have fk : ∀ k, k ≠ 102 → k ≠ 112 → τ'.1 k = τ.1 k := fun k g1 g2 => by rw [hτ', wi_row g1, wi_row g1, wi_row g2, wi_row g1]
      have f2 : ∀ i, 3 ≤ i → τ'.1 102 i = τ.1 102 i := fun i g1 => by rw [hτ', wi_ne (by omega), wi_ne (by omega), wi_row (by decide), wi_ne (by omega)]
      have fx : ∀ i, i ≠ 35 → τ'.1 112 i = τ.1 112 i := fun i g1 => by rw [hτ', wi_row (by decide), wi_row (by decide), wi_ne g1, wi_row (by decide)]
      have h5 := a1.1
      have QQ' : QQ m 63 σ' τ' V E d p L q dl pl et false t s rd h n g := by
        refine ⟨⟨a1, ?_, RV_cells a3 h5 (lv6 a1) (f2 14 (by decide)) (fk 103 (by decide) (by decide)) (fk 104 (by decide) (by decide)) (fun i hi => fx i (by omega)), ?_, ?_, ⟨by rw [hσ', wi_eq], by rw [hτ', wi_row (by decide), wi_row (by decide), wi_eq], by omega, y.2⟩, fun v hv => ?_, fun v hv => ?_⟩, QE_congr hE (fm 4 (by decide)) (fc _ (by omega) (by omega)) (fc _ (by omega) (by omega)) (fc _ (by omega) (by omega)) (f2 15 (by decide)) (fk 105 (by decide) (by decide)),
          QR_rows hR (fun i _ => by rw [fc 63 (by decide) (by omega)]) (fun i _ _ => fx i (by omega)) (by rw [fc 63 (by decide) (by omega), fx 42 (by decide)]; exact hR.2.2.2.2.2.2), ?_, fun w hw => QP_congr (hP w hw) (fun k g1 g2 => by rw [fc k (by omega) (by omega)]) (fun i g1 g2 => fx i (by omega)) (fk 103 (by decide) (by decide)), LR_congr hL rfl rfl (fun k g1 g2 => fc k (by omega) (by omega)) (fun i hi => fx i (by omega)), hn, by rw [fc 63 (by decide) (by omega)]; exact hrd, hb, fun q => ⟨(hz q).1, fun q => by cases q⟩⟩
        · rw [hσ']
          exact CV_c0 (CV_rows a2 (fun k g1 g2 => wi_row (by omega)))
        · rw [fm 1 (by decide), f2 12 (by decide)]; exact a4
        · rw [fm 2 (by decide), f2 13 (by decide)]; exact a5
        · rw [fc (m + 5) (by omega) (by omega), fk 103 (by decide) (by decide)]; exact a7 v hv
        · rw [fc (m + 7) (by omega) (by omega), fx (43 + v) (by omega)]; exact a8 v hv
        · obtain ⟨np, n1, n2⟩ := hN
          exact ⟨np, by rw [fc 63 (by decide) (by omega)]; exact n1, n2⟩
      refine ⟨I W, σ', τ', ?_, by rw [er, hτ'], ⟨m, V, E, pres, kp, d, p, L, q, dl, pl, et, false, t, s, rd, h, n, g, GA_act hG hp (by omega) QQ' (by have := hG.2.2.1.2; omega) (fun k hk => fc k (by omega) (by omega)) (fun i hi => by rw [hσ', wi_row (by omega), wi_ne hi]) (by rw [hσ', wi_2, wi_2]) (fun k g1 g2 g3 => fk k (by omega) g3) (fun i g1 _ => f2 i g1) (by rw [hσ', wi_row (by omega), wi_eq]) (by rw [hτ', wi_ne (by decide), wi_eq]) (by rw [hτ', wi_eq])⟩, ⟨fun k hk => by rw [hσ', wi_row (by omega)], by rw [hσ', wi_2]⟩, ⟨fun k hk => fk k (by omega) (by omega), by rw [hτ', wi_2, wi_2, wi_2, wi_2]⟩⟩
      show gd (bM ((wi σ 0 12 (I 0)).2.2 0 4)) (gd (bM ((wi σ 0 12 (I 0)).2.2 0 4)) (nmW (wi (wi σ 0 12 (I 0)) ((wi σ 0 12 (I 0)).2.2 0 4) 0 (I q)) fun σ5 => some ((wi σ 0 12 (I 0)).1 ((wi σ 0 12 (I 0)).2.2 0 4) 0, σ5))) = _
      rw [hm, bm, gd_t, gd_t, nm_W, wi_row (by omega), a6.1, hσ'])
  refine ⟨x, σ', τ', ?_, k2, k3⟩
  rw [c_order c1 hQ.2.2.1.1.1]
  exact k1
