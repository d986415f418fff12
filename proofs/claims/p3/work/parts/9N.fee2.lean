/-! PURE: fee, whole -/
theorem fee_1 {τ : Wd} {v q : Int} (e1 : f_X7_isVenue (I v) (wi τ 102 0 (I 0)) = some (I 0, wi τ 102 0 (I 0))) : f_X7_fee (I v) (I q) τ = some (I (-2147483648), refW τ (I 1)) := by
  unfold f_X7_fee refW
  simp (disch := omega) only [gd_t, bd_s, nm_W, nm_I, I_add, I_sub, I_mul, I_neg, I_le_t, I_le_f, I_lt_t, I_lt_f, I_eq_t, I_eq_f, I_inb', I_ix', Int.toNat_natCast, decide_true, decide_false, Bool.not_false, Bool.not_true, if_true, if_false, wi_eq, wi_eq', wi_ne, wi_row, wi_2, N0, N1, N2, N3, N4, N5, N6, N7, N8, N9, N10, N11, N12, N13, N14, N15, N16, N17, N18, N19, N20, N21, N22, N23, N24, N25, N26, N27, N28, N29, N30, N31, N32, N33, N34, N35, N36, N37, N38, N39, N40, N41, N42, N43, N45, N48, N57, N59, N88, N89, N97, N99, N120, N121, N122, N179, N200, N255, N300, N400, N880, N900, N999, N1019, N50000000, N100000000, N1000000000, N2147483647, N2147483648, e1, refL]
theorem c_fee {σ : Wd} {v q a c : Int} {b : Bool} (e1 : f_X6_isVenue (I v) σ = some (I a, σ)) (e : f_X6_within (I q) (I (-9)) (I 9) σ = some (I c, σ)) (h : σ.1 63 0 = I (bn b)) : f_X6_fee (I v) (I q) σ = f_X6_fee_29 (I v) (I q) (I a) (I c) (I (bn (!b))) σ := by
  cases b with
  | false =>
    have h : σ.1 63 0 = (0 : Int32) := h
    unfold f_X6_fee
    rw [show (-9 : Int32) = I (-9) from rfl, show (9 : Int32) = I 9 from rfl, e1, bd_s, e, bd_s, if_pos h]
    rfl
  | true =>
    have h : ¬ σ.1 63 0 = (0 : Int32) := by rw [h]; decide
    unfold f_X6_fee
    rw [show (-9 : Int32) = I (-9) from rfl, show (9 : Int32) = I 9 from rfl, e1, bd_s, e, bd_s, if_neg h]
    rfl
theorem m_fee (x y : Int32) : MT (f_X6_fee x y) (f_X7_fee x y) := by
  intro σ τ B ⟨m, V, E, pres, kp, d, p, L, W, dl, pl, et, b, t, s, rd, h, n, g, hG⟩ hB
  obtain ⟨v, rfl, hv⟩ := argI x
  obtain ⟨q, rfl, hq⟩ := argI y
  obtain ⟨bm, m10, m63⟩ := bMm hG.1
  have m24 : m = 11 ∨ m = 24 := by have := hG.1; omega
  have hQ := hG.2.2.1.1
  have h5 := hQ.1.1.1
  have g21 : (wi τ 102 0 (I 0)).1 102 21 = I (bn pres) := by rw [wi_ne (by decide)]; exact hG.2.2.2.1.2.1
  have g14 : (wi τ 102 0 (I 0)).1 102 14 = I (V : Int) := by rw [wi_ne (by decide)]; exact hQ.1.2.2.1.1
  have c0 := cIsV (σ := σ) hv hG.2.1 bm hQ.1.2.1.1 h5
  have c1 := cWithin (σ := σ) (lo := -9) (hi := 9) hq (by unfold R; omega) (by unfold R; omega)
  have c2 := rIn (σ := wi τ 102 0 (I 0)) (lo := -9) (hi := 9) hq (by unfold R; omega) (by unfold R; omega)
  have er : pres = true → 0 ≤ v → v < (V : Int) → ∃ u : Nat, v = (u : Int) ∧ u < V ∧ f_X7_fee (I v) (I q) τ = if bn (decide (-9 ≤ q ∧ q ≤ 9)) = 0 then some (I (-2147483648), refW τ (I 2)) else if bn b = 1 then some (I (-2147483648), refW τ (I 5)) else some (I (d.fe u), wi (wi (wi (wi τ 102 0 (I 0)) 112 (30 + u) (I q)) 102 1 (I 0)) 102 2 (I (-1))) := fun hp v0 v1 => by
    have ev := rIsV1 (τ := wi τ 102 0 (I 0)) (x := bn pres) hv g21 (by rw [hp]; rfl) g14 h5 v0 v1
    obtain ⟨u, rfl⟩ := Int.eq_ofNat_of_zero_le v0
    exact ⟨u, rfl, by omega, fee_r (by omega) ev c2 (bn_bnd _) hQ.2.2.1.1.2 (bn_bnd b) (hQ.1.2.2.1.2 u (by omega)).2.2.1⟩
  obtain ⟨x, σ', τ', k1, k2, k3⟩ := act_ok (B' := B + 200) (a := bn (decide (0 ≤ v ∧ v < (V : Int)))) (nn := bn (decide (-9 ≤ q ∧ q ≤ 9))) (ss := bn (!b)) (low := I (-2147483648)) (K := fun σ2 => gd (bM (σ2.2.2 0 4)) (gd (inb (I v) 5) (gd (bM (σ2.2.2 0 4)) (gd (inb (I v) 5) (nmW (wi σ2 ((σ2.2.2 0 4) + 3) (ix (I v)) (I q)) fun σ5 => some (σ2.1 ((σ2.2.2 0 4) + 3) (ix (I v)), σ5)))))) (fr := f_X7_fee (I v) (I q))
    hG (by omega) (bn_bnd _) (bn_bnd _) (bn_bnd _)
    (fun hc => by
      rcases tc_cases (pres := pres) (a := bn (decide (0 ≤ v ∧ v < (V : Int)))) (n := bn (decide (-9 ≤ q ∧ q ≤ 9))) (s := bn (!b)) with ⟨q1, q2⟩ | ⟨q1, q2, q3⟩ | ⟨q1, q2, q3, q4⟩ | ⟨q1, q2, q3, q4, q5⟩ | ⟨-, -, -, -, q2⟩
      · rw [q2]; exact fee_1 (rIsV0 hv g21 (bn_bnd _) g14 h5 (Or.inl (by rw [q1]; rfl)))
      · rw [q3]; exact fee_1 (rIsV0 hv g21 (bn_bnd _) g14 h5 (Or.inr (bn_0 q2)))
      · have y := bn_n0 q2
        obtain ⟨u, -, -, e⟩ := er q1 y.1 y.2
        rw [q4, e, if_pos q3]; rfl
      · have y := bn_n0 q2
        obtain ⟨u, -, -, e⟩ := er q1 y.1 y.2
        rw [q5, e, if_neg q3, if_pos (by cases b with
          | true => rfl
          | false => cases q4)]; rfl
      · exact absurd q2 hc)
    (fun hp ha hn hs => by
      have yv := bn_1 ha
      have yq := bn_1 hn
      have bf : b = false := by
        cases e : b with
        | true => rw [e] at hs; cases hs
        | false => rfl
      subst bf
      obtain ⟨u, rfl, hu, e⟩ := er hp yv.1 yv.2
      rw [if_neg (by omega), if_neg (by decide)] at e
      obtain ⟨hM, hE, hR, hN, hP, hL, hn, hrd, hb, hz⟩ := hQ
      obtain ⟨τ', hτ'⟩ : ∃ x, x = wi (wi (wi (wi τ 102 0 (I 0)) 112 (30 + u) (I q)) 102 1 (I 0)) 102 2 (I (-1)) := ⟨_, rfl⟩
      obtain ⟨σ', hσ'⟩ : ∃ x, x = wi (wi σ 0 12 (I 0)) (m + 3) u (I q) := ⟨_, rfl⟩
      have fc : ∀ k, k ≠ 0 → k ≠ m + 3 → σ'.1 k = σ.1 k := fun k g1 g2 => by rw [hσ', wi_row g2, wi_row g1]
      have fk : ∀ k, k ≠ 102 → k ≠ 112 → τ'.1 k = τ.1 k := fun k g1 g2 => by rw [hτ', wi_row g1, wi_row g1, wi_row g2, wi_row g1]
      have f2 : ∀ i, 3 ≤ i → τ'.1 102 i = τ.1 102 i := fun i g1 => by rw [hτ', wi_ne (by omega), wi_ne (by omega), wi_row (by decide), wi_ne (by omega)]
      have fx : ∀ i, 35 ≤ i → τ'.1 112 i = τ.1 112 i := fun i g1 => by rw [hτ', wi_row (by decide), wi_row (by decide), wi_ne (by omega), wi_row (by decide)]
      have cv' : CV m σ' V (df d u q) := by rw [hσ']; exact CV_df (CV_rows hM.2.1 (fun k g1 g2 => wi_row (by omega)))
      have rv' : RV τ' V (df d u q) := by
        have r1 : RV (wi (wi τ 102 0 (I 0)) 112 (30 + u) (I q)) V (df d u q) := RV_df (RV_congr hM.2.2.1 (by rw [wi_ne (by decide)]) (wi_row (by decide)) (wi_row (by decide)) (wi_row (by decide))) h5 (lv6 hM.1) hu
        exact RV_congr r1 (by rw [hτ', wi_ne (by decide), wi_ne (by decide)]) (by rw [hτ', wi_row (by decide), wi_row (by decide)]) (by rw [hτ', wi_row (by decide), wi_row (by decide)]) (by rw [hτ', wi_row (by decide), wi_row (by decide)])
      have QQ' : QQ m 63 σ' τ' V E (df d u q) p L W dl pl et false t s rd h n g := by
        refine ⟨QM_congr hM (MDok_df hM.1 yq.1 yq.2) cv' rv' (fun i hi => by rw [fc m (by omega) (by omega)]) (fc _ (by omega) (by omega)) (fc _ (by omega) (by omega)) (f2 12 (by decide)) (f2 13 (by decide)) (fk 103 (by decide) (by decide)) (fx 35 (by decide)) (fun v hv => fx _ (by omega)), QE_congr hE (by rw [fc m (by omega) (by omega)]) (fc _ (by omega) (by omega)) (fc _ (by omega) (by omega)) (fc _ (by omega) (by omega)) (f2 15 (by decide)) (fk 105 (by decide) (by decide)),
          QR_rows hR (fun i _ => by rw [fc 63 (by decide) (by omega)]) (fun i _ _ => fx i (by omega)) (by rw [fc 63 (by decide) (by omega), fx 42 (by decide)]; exact hR.2.2.2.2.2.2), ?_, fun w hw => QP_congr (hP w hw) (fun k g1 g2 => by rw [fc k (by omega) (by omega)]) (fun i g1 g2 => fx i (by omega)) (fk 103 (by decide) (by decide)), LR_congr hL rfl rfl (fun k g1 g2 => fc k (by omega) (by omega)) (fun i hi => fx i (by omega)), hn, by rw [fc 63 (by decide) (by omega)]; exact hrd, hb, hz⟩
        obtain ⟨np, n1, n2⟩ := hN
        exact ⟨np, by rw [fc 63 (by decide) (by omega)]; exact n1, n2⟩
      have tB := hG.2.2.1.2
      refine ⟨I (d.fe u), σ', τ', ?_, by rw [e, hτ'], ⟨m, V, E, pres, kp, df d u q, p, L, W, dl, pl, et, false, t, s, rd, h, n, g, GA_act hG hp (by omega) QQ' (by omega) (fun k hk => fc k (by omega) (by omega)) (fun i hi => by rw [hσ', wi_row (by omega), wi_ne hi]) (by rw [hσ', wi_2, wi_2]) (fun k g1 g2 g3 => fk k (by omega) g3) (fun i g1 _ => f2 i g1) (by rw [hσ', wi_row (by omega), wi_eq]) (by rw [hτ', wi_ne (by decide), wi_eq]) (by rw [hτ', wi_eq])⟩, ⟨fun k hk => by rw [hσ', wi_row (by omega)], by rw [hσ', wi_2]⟩, ⟨fun k hk => fk k (by omega) (by omega), by rw [hτ', wi_2, wi_2, wi_2, wi_2]⟩⟩
      have hm : (wi σ 0 12 (I 0)).2.2 0 4 = m := hG.2.1
      have i1 : inb (I (u : Int)) 5 = true := inI (by omega) (by decide)
      have i2 : ix (I (u : Int)) = u := ixI (by omega)
      have fe := (hM.2.1.2 u hu).2.2.1
      show gd (bM ((wi σ 0 12 (I 0)).2.2 0 4)) (gd (inb (I (u : Int)) 5) (gd (bM ((wi σ 0 12 (I 0)).2.2 0 4)) (gd (inb (I (u : Int)) 5) (nmW (wi (wi σ 0 12 (I 0)) (((wi σ 0 12 (I 0)).2.2 0 4) + 3) (ix (I (u : Int))) (I q)) fun σ5 => some ((wi σ 0 12 (I 0)).1 (((wi σ 0 12 (I 0)).2.2 0 4) + 3) (ix (I (u : Int))), σ5))))) = _
      rw [hm, bm, i1, gd_t, gd_t, gd_t, gd_t, nm_W, i2, wi_row (show m + 3 ≠ 0 by omega), fe, hσ'])
  refine ⟨x, σ', τ', ?_, k2, k3⟩
  rw [c_fee c0 c1 hQ.2.2.1.1.1]
  exact k1
