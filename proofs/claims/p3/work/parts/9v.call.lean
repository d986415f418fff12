/-! PURE: call, whole -/
theorem c_call {σ : Wd} {v a ss : Int} (e1 : f_X6_isVenue (I v) σ = some (I a, σ)) (ha : 0 ≤ a ∧ a ≤ 1) (hs : 0 ≤ ss ∧ ss ≤ 1) (h0 : a = 0 → ss = 0) (h1 : a = 1 → f_X4_canBeCalled 63 (I v) σ = some (I ss, σ)) : f_X6_call (I v) σ = f_X6_call_31 (I v) (I a) (I 1) (I ss) σ := by
  unfold f_X6_call f_X6_call_30
  by_cases c1 : a = 0
  · have s0 := h0 c1
    simp (disch := omega) only [gd_t, bd_s, nm_W, nm_I, I_add, I_sub, I_mul, I_neg, I_le_t, I_le_f, I_lt_t, I_lt_f, I_eq_t, I_eq_f, I_inb', I_ix', Int.toNat_natCast, decide_true, decide_false, Bool.not_false, Bool.not_true, if_true, if_false, wi_eq, wi_eq', wi_ne, wi_row, wi_2, N0, N1, N2, N3, N4, N5, N6, N7, N8, N9, N10, N11, N12, N13, N14, N15, N16, N17, N18, N19, N20, N21, N22, N23, N24, N25, N26, N27, N28, N29, N30, N31, N32, N33, N34, N35, N36, N37, N38, N39, N40, N41, N42, N43, N45, N48, N57, N59, N88, N89, N97, N99, N120, N121, N122, N179, N200, N255, N300, N400, N880, N900, N999, N1019, N50000000, N100000000, N1000000000, N2147483647, N2147483648, e1]
    rw [s0]
  · have e2 := h1 (by omega)
    by_cases c2 : ss = 0
    · simp (disch := omega) only [gd_t, bd_s, nm_W, nm_I, I_add, I_sub, I_mul, I_neg, I_le_t, I_le_f, I_lt_t, I_lt_f, I_eq_t, I_eq_f, I_inb', I_ix', Int.toNat_natCast, decide_true, decide_false, Bool.not_false, Bool.not_true, if_true, if_false, wi_eq, wi_eq', wi_ne, wi_row, wi_2, N0, N1, N2, N3, N4, N5, N6, N7, N8, N9, N10, N11, N12, N13, N14, N15, N16, N17, N18, N19, N20, N21, N22, N23, N24, N25, N26, N27, N28, N29, N30, N31, N32, N33, N34, N35, N36, N37, N38, N39, N40, N41, N42, N43, N45, N48, N57, N59, N88, N89, N97, N99, N120, N121, N122, N179, N200, N255, N300, N400, N880, N900, N999, N1019, N50000000, N100000000, N1000000000, N2147483647, N2147483648, e1, e2]
      rw [c2]
    · simp (disch := omega) only [gd_t, bd_s, nm_W, nm_I, I_add, I_sub, I_mul, I_neg, I_le_t, I_le_f, I_lt_t, I_lt_f, I_eq_t, I_eq_f, I_inb', I_ix', Int.toNat_natCast, decide_true, decide_false, Bool.not_false, Bool.not_true, if_true, if_false, wi_eq, wi_eq', wi_ne, wi_row, wi_2, N0, N1, N2, N3, N4, N5, N6, N7, N8, N9, N10, N11, N12, N13, N14, N15, N16, N17, N18, N19, N20, N21, N22, N23, N24, N25, N26, N27, N28, N29, N30, N31, N32, N33, N34, N35, N36, N37, N38, N39, N40, N41, N42, N43, N45, N48, N57, N59, N88, N89, N97, N99, N120, N121, N122, N179, N200, N255, N300, N400, N880, N900, N999, N1019, N50000000, N100000000, N1000000000, N2147483647, N2147483648, e1, e2]
      rw [show ss = 1 by omega]
set_option maxHeartbeats 1000000 in
theorem m_call (x : Int32) : MT (f_X6_call x) (f_X7_call x) := by
  intro σ τ B ⟨m, V, E, pres, kp, d, p, L, W, dl, pl, et, b, t, s, rd, h, n, g, hG⟩ hB
  obtain ⟨v, rfl, hv⟩ := argI x
  obtain ⟨bm, m10, m63⟩ := bMm hG.1
  have m24 : m = 11 ∨ m = 24 := by have := hG.1; omega
  have hQ := hG.2.2.1.1
  have tB := hG.2.2.1.2
  have h5 := hQ.1.1.1
  have g21 : (wi τ 102 0 (I 0)).1 102 21 = I (bn pres) := by rw [wi_ne (by decide)]; exact hG.2.2.2.1.2.1
  have g14 : (wi τ 102 0 (I 0)).1 102 14 = I (V : Int) := by rw [wi_ne (by decide)]; exact hQ.1.2.2.1.1
  have g36 : (wi τ 102 0 (I 0)).1 112 36 = I (bn b) := by rw [wi_row (by decide)]; exact hQ.2.2.1.1.2
  have c0 := cIsV (σ := σ) hv hG.2.1 bm hQ.1.2.1.1 h5
  have t0 := hQ.2.2.1.2.1.2.2.1
  -- what is known of the part
  have part : ∀ u : Nat, u < V → ∃ k : Int, (σ.1 64 u = I (h u) ∧ τ.1 112 (48 + 8 * u) = I (h u) ∧ 0 ≤ h u ∧ h u ≤ 3) ∧ τ.1 112 (54 + 8 * u) = I k ∧ -2 ≤ k ∧ k ≤ t + 9 ∧ (h u = 1 ∨ h u = 2 → σ.1 71 u = I k ∧ (k = -2 ∨ t < k)) := fun u hu => by
    obtain ⟨⟨a1, a2⟩, -, -, -, -, ⟨w, k, -, -, -, -, -, z6, z7, z8, z9, -⟩, -, -, hc⟩ := hQ.2.2.2.2.1 u hu
    exact ⟨k, ⟨a1, a2, by omega, by omega⟩, z6, z7, z8, z9⟩
  obtain ⟨ss, hs, hs0, hs1⟩ : ∃ ss : Int, (0 ≤ ss ∧ ss ≤ 1) ∧ (¬ (0 ≤ v ∧ v < (V : Int)) → ss = 0) ∧ (∀ u : Nat, v = (u : Int) → u < V → f_X4_canBeCalled 63 (I v) σ = some (I ss, σ) ∧ (ss = 1 ↔ b = true ∧ (h u = 1 ∨ h u = 2) ∧ σ.1 71 u = I (-2) ∧ τ.1 112 (54 + 8 * u) = I (-2))) := by
    by_cases y : 0 ≤ v ∧ v < (V : Int)
    · obtain ⟨u, rfl⟩ := Int.eq_ofNat_of_zero_le y.1
      obtain ⟨k, ⟨a1, a2, a3, a4⟩, a5, a6, a7, a8⟩ := part u (by omega)
      have e := c_can (σ := σ) (v := u) (bg := bn b) (h := h u) (k := k) (t := t) (by omega) hQ.2.2.1.1.1 (bn_bnd _) a1 ⟨a3, a4⟩ (fun q => (a8 q).1) hQ.2.2.1.2.1.1 ⟨t0, by omega⟩ ⟨a6, by omega⟩
      refine ⟨bn (decide (bn b = 1 ∧ (h u = 1 ∨ h u = 2) ∧ k ≤ t)), bn_bnd _, fun q => absurd y q, fun u' hu' _ => ?_⟩
      have eu : u' = u := by omega
      subst eu
      refine ⟨e, fun q => ?_, fun q => ?_⟩
      · obtain ⟨q1, q2, q3⟩ := bn_1 q
        obtain ⟨z1, z2⟩ := a8 q2
        have k2 : k = -2 := by omega
        rw [k2] at z1 a5
        refine ⟨?_, q2, z1, a5⟩
        cases b with
        | true => rfl
        | false => cases q1
      · obtain ⟨q1, q2, q3, q4⟩ := q
        rw [a5, I_eq (by unfold R; omega) (by unfold R; omega)] at q4
        rw [decide_eq_true ⟨by rw [q1]; rfl, q2, by omega⟩]
        rfl
    · exact ⟨0, by omega, fun _ => rfl, fun u hu1 hu2 => absurd ⟨by omega, by omega⟩ y⟩
  have c1 := c_call c0 (bn_bnd _) hs (fun q => hs0 (bn_0 q)) (fun q => by
    have y := bn_1 q
    obtain ⟨u, rfl⟩ := Int.eq_ofNat_of_zero_le y.1
    exact (hs1 u rfl (by omega)).1)
  obtain ⟨x, σ', τ', k1, k2, k3⟩ := act_ok (B' := B + 200) (a := bn (decide (0 ≤ v ∧ v < (V : Int)))) (nn := 1) (ss := ss) (low := I (-1)) (K := fun σ2 => gd (bM (σ2.2.2 0 4)) (gd (inb (I v) 5) (gd (inb (I v) 5) (nmW (wi σ2 71 (ix (I v)) ((σ2.1 63 1) + (σ2.1 ((σ2.2.2 0 4) + 5) (ix (I v))))) fun σ4 => gd (inb (I v) 5) (some (σ4.1 71 (ix (I v)), σ4)))))) (fr := f_X7_call (I v))
    hG (by omega) (bn_bnd _) (by omega) hs
    (fun hc => by
      rcases tc_cases (pres := pres) (a := bn (decide (0 ≤ v ∧ v < (V : Int)))) (n := 1) (s := ss) with ⟨q1, q2⟩ | ⟨q1, q2, q3⟩ | ⟨-, -, q2, -⟩ | ⟨q1, q2, -, q4, q5⟩ | ⟨-, -, -, -, q2⟩
      · rw [q2]
        have e := rRun (τ := wi τ 102 0 (I 0)) (a := 0) g21 g36 (by omega)
        rw [show tc pres 0 1 (bn b) = 1 by unfold tc; rw [if_pos (Or.inr rfl)]] at e
        exact call_1 (rIsV0 hv g21 (bn_bnd _) g14 h5 (Or.inl (by rw [q1]; rfl))) e (by omega)
      · rw [q3]
        have e := rRun (τ := wi τ 102 0 (I 0)) (a := 0) g21 g36 (by omega)
        rw [show tc pres 0 1 (bn b) = 1 by unfold tc; rw [if_pos (Or.inr rfl)]] at e
        exact call_1 (rIsV0 hv g21 (bn_bnd _) g14 h5 (Or.inr (bn_0 q2))) e (by omega)
      · omega
      · rw [q5]
        have y := bn_n0 q2
        have ev := rIsV1 (τ := wi τ 102 0 (I 0)) (x := bn pres) hv g21 (by rw [q1]; rfl) g14 h5 y.1 y.2
        have e := rRun (τ := wi τ 102 0 (I 0)) (a := 1) g21 g36 (by omega)
        cases hb : b with
        | false =>
          rw [hb, q1, show tc true 1 1 (bn false) = 5 by decide] at e
          exact call_1 ev e (by omega)
        | true =>
          rw [hb, q1, show tc true 1 1 (bn true) = 0 by decide] at e
          obtain ⟨u, rfl⟩ := Int.eq_ofNat_of_zero_le y.1
          obtain ⟨k, ⟨a1, a2, a3, a4⟩, a5, a6, a7, a8⟩ := part u (by omega)
          refine call_5 (by omega) ev e a2 ⟨a3, a4⟩ a5 ⟨a6, by omega⟩ (fun q => ?_)
          have k2 := q.2
          subst k2
          have := (hs1 u rfl (by omega)).2.mpr ⟨hb, q.1, (a8 q.1).1, a5⟩
          omega
      · exact absurd q2 hc)
    (fun hp ha _ hss => by
      have y := bn_1 ha
      have ev := rIsV1 (τ := wi τ 102 0 (I 0)) (x := bn pres) hv g21 (by rw [hp]; rfl) g14 h5 y.1 y.2
      have e := rRun (τ := wi τ 102 0 (I 0)) (a := 1) g21 g36 (by omega)
      obtain ⟨u, rfl⟩ := Int.eq_ofNat_of_zero_le y.1
      have hu : u < V := by omega
      obtain ⟨b1, hh, k71, k54⟩ := (hs1 u rfl hu).2.mp hss
      rw [b1, hp, show tc true 1 1 (bn true) = 0 by decide] at e
      obtain ⟨hM, hE, hR, hN, hP, hL, hn, hrd, hb, hz⟩ := hQ
      obtain ⟨D1, D2, D3, D4⟩ := hM.2.2.2.2.2.2.1 u hu
      have e0 := call_0 (by omega) ev e (hP u hu).1.2 hh k54 rfl hR.2.1.2.1 D2
      obtain ⟨τ', hτ'⟩ : ∃ x, x = wi (wi (wi (wi τ 102 0 (I 0)) 112 (54 + 8 * u) (I (t + dl u))) 102 1 (I 0)) 102 2 (I (-1)) := ⟨_, rfl⟩
      obtain ⟨σ', hσ'⟩ : ∃ x, x = wi (wi σ 0 12 (I 0)) 71 u (I (t + dl u)) := ⟨_, rfl⟩
      have fc : ∀ k, k ≠ 0 → k ≠ 71 → σ'.1 k = σ.1 k := fun k g1 g2 => by rw [hσ', wi_row g2, wi_row g1]
      have f71 : ∀ i, i ≠ u → σ'.1 71 i = σ.1 71 i := fun i g1 => by rw [hσ', wi_ne g1, wi_row (by decide)]
      have fk : ∀ k, k ≠ 102 → k ≠ 112 → τ'.1 k = τ.1 k := fun k g1 g2 => by rw [hτ', wi_row g1, wi_row g1, wi_row g2, wi_row g1]
      have f2 : ∀ i, 3 ≤ i → τ'.1 102 i = τ.1 102 i := fun i g1 => by rw [hτ', wi_ne (by omega), wi_ne (by omega), wi_row (by decide), wi_ne (by omega)]
      have fx : ∀ i, i ≠ 54 + 8 * u → τ'.1 112 i = τ.1 112 i := fun i g1 => by rw [hτ', wi_row (by decide), wi_row (by decide), wi_ne g1, wi_row (by decide)]
      have s71 : σ'.1 71 u = I (t + dl u) := by rw [hσ', wi_eq]
      have x54 : τ'.1 112 (54 + 8 * u) = I (t + dl u) := by rw [hτ', wi_row (by decide), wi_row (by decide), wi_eq]
      have hPu : QP 63 σ' τ' t t u (h u) (n u) (g u) := by
        obtain ⟨y1, y2, y3, y4, y5, ⟨w, k, z1, z2, z3, z4, z5, z6, z7, z8, z9, z10, z11⟩, y6, y7, y8⟩ := hP u hu
        refine ⟨by rw [fc 64 (by decide) (by decide), fx _ (by omega)]; exact y1, by rw [fc 65 (by decide) (by decide), fx _ (by omega)]; exact y2, by rw [fc 66 (by decide) (by decide), fx _ (by omega)]; exact y3, by rw [fc 68 (by decide) (by decide), fx _ (by omega)]; exact y4, by rw [fc 69 (by decide) (by decide), fx _ (by omega)]; exact y5, ⟨w, t + dl u, by rw [fc 70 (by decide) (by decide)]; exact z1, by rw [fx _ (by omega)]; exact z2, z3, z4, z5, x54, by omega, by omega, fun _ => ⟨s71, Or.inr (by omega)⟩, fun q => ?_, fun q => by omega⟩, by rw [fc 67 (by decide) (by decide), fx _ (by omega)]; exact y6, y7, y8⟩
        have := (z10 q).2
        rw [D2, I_toInt (by unfold R; omega)] at this
        refine ⟨fun _ => this, ?_⟩
        rw [fk 103 (by decide) (by decide), D2, I_toInt (by unfold R; omega)]
        exact this
      have QQ' : QQ m 63 σ' τ' V E d p L W dl pl et b t s rd h n g := by
        refine ⟨QM_rows hM (fun k g1 g2 => fc k (by omega) (by omega)) (fun i g1 g2 => f2 i (by omega)) (fk 103 (by decide) (by decide)) (fk 104 (by decide) (by decide)) (fun i hi => fx i (by omega)), QE_congr hE (by rw [fc m (by omega) (by omega)]) (fc _ (by omega) (by omega)) (fc _ (by omega) (by omega)) (fc _ (by omega) (by omega)) (f2 15 (by decide)) (fk 105 (by decide) (by decide)),
          QR_rows hR (fun i _ => by rw [fc 63 (by decide) (by decide)]) (fun i _ _ => fx i (by omega)) (by rw [fc 63 (by decide) (by decide), fx 42 (by omega)]; exact hR.2.2.2.2.2.2), ?_, fun w hw => ?_, LR_congr hL rfl rfl (fun k g1 g2 => fc k (by omega) (by omega)) (fun i hi => fx i (by omega)), hn, by rw [fc 63 (by decide) (by decide)]; exact hrd, hb, hz⟩
        · obtain ⟨np, n1, n2⟩ := hN
          exact ⟨np, by rw [fc 63 (by decide) (by decide)]; exact n1, n2⟩
        · by_cases q : w = u
          · rw [q]; exact hPu
          · refine QP_congr (hP w hw) (fun k g1 g2 => ?_) (fun i g1 g2 => fx i (by omega)) (fk 103 (by decide) (by decide))
            by_cases k71 : k = 71
            · rw [k71]; exact f71 w q
            · rw [fc k (by omega) k71]
      refine ⟨I (t + dl u), σ', τ', ?_, by rw [e0, hτ'], ⟨m, V, E, pres, kp, d, p, L, W, dl, pl, et, b, t, s, rd, h, n, g, GA_act hG hp (by omega) QQ' (by omega) (fun k hk => fc k (by omega) (by omega)) (fun i hi => by rw [hσ', wi_row (by omega), wi_ne hi]) (by rw [hσ', wi_2, wi_2]) (fun k g1 g2 g3 => fk k (by omega) g3) (fun i g1 _ => f2 i g1) (by rw [hσ', wi_row (by omega), wi_eq]) (by rw [hτ', wi_ne (by decide), wi_eq]) (by rw [hτ', wi_eq])⟩, ⟨fun k hk => by rw [hσ', wi_row (by omega)], by rw [hσ', wi_2]⟩, ⟨fun k hk => fk k (by omega) (by omega), by rw [hτ', wi_2, wi_2, wi_2, wi_2]⟩⟩
      have hm : (wi σ 0 12 (I 0)).2.2 0 4 = m := hG.2.1
      have i1 : inb (I (u : Int)) 5 = true := inI (by omega) (by decide)
      have i2 : ix (I (u : Int)) = u := ixI (by omega)
      show gd (bM ((wi σ 0 12 (I 0)).2.2 0 4)) (gd (inb (I (u : Int)) 5) (gd (inb (I (u : Int)) 5) (nmW (wi (wi σ 0 12 (I 0)) 71 (ix (I (u : Int))) (((wi σ 0 12 (I 0)).1 63 1) + ((wi σ 0 12 (I 0)).1 (((wi σ 0 12 (I 0)).2.2 0 4) + 5) (ix (I (u : Int)))))) fun σ4 => gd (inb (I (u : Int)) 5) (some (σ4.1 71 (ix (I (u : Int))), σ4))))) = _
      rw [hm, bm, i1, gd_t, gd_t, gd_t, nm_W, gd_t, i2, wi_row (show m + 5 ≠ 0 by omega), wi_row (show 63 ≠ 0 by decide), D1, hR.2.1.1, I_add, ← hσ', s71])
  refine ⟨x, σ', τ', ?_, k2, k3⟩
  rw [c1]
  exact k1
