/-! PURE: keep -/
theorem keep_r0 {τ : Wd} {x : Int} (h : τ.1 102 21 = I x) (hx : x = 0) : f_X7_keep τ = some (I 0, refW τ (I 1)) := by
  unfold f_X7_keep refW
  simp (disch := omega) only [gd_t, bd_s, nm_W, nm_I, I_add, I_sub, I_mul, I_neg, I_le_t, I_le_f, I_lt_t, I_lt_f, I_eq_t, I_eq_f, I_inb', I_ix', Int.toNat_natCast, decide_true, decide_false, Bool.not_false, Bool.not_true, if_true, if_false, wi_eq, wi_eq', wi_ne, wi_row, wi_2, N0, N1, N2, N3, N4, N5, N6, N7, N8, N9, N10, N11, N12, N13, N14, N15, N16, N17, N18, N19, N20, N21, N22, N23, N24, N25, N26, N27, N28, N29, N30, N31, N32, N33, N34, N35, N36, N37, N38, N39, N40, N41, N42, N43, N45, N48, N57, N59, N88, N89, N97, N99, N120, N121, N122, N179, N200, N255, N300, N400, N880, N900, N999, N1019, N50000000, N100000000, N1000000000, N2147483647, N2147483648, h, refR, isb_0]
theorem keep_r1 {τ τ1 : Wd} {x : Int} (h : τ.1 102 21 = I x) (hx : x = 1) (e : f_X7_copies 112 179 113 179 (wi τ 102 0 (I 0)) = some (0, τ1)) : f_X7_keep τ = some (I 1, wi (wi (wi τ1 102 25 (I 1)) 102 1 (I 0)) 102 2 (I (-1))) := by
  unfold f_X7_keep
  simp (disch := omega) only [gd_t, bd_s, nm_W, nm_I, I_add, I_sub, I_mul, I_neg, I_le_t, I_le_f, I_lt_t, I_lt_f, I_eq_t, I_eq_f, I_inb', I_ix', Int.toNat_natCast, decide_true, decide_false, Bool.not_false, Bool.not_true, if_true, if_false, wi_eq, wi_eq', wi_ne, wi_row, wi_2, N0, N1, N2, N3, N4, N5, N6, N7, N8, N9, N10, N11, N12, N13, N14, N15, N16, N17, N18, N19, N20, N21, N22, N23, N24, N25, N26, N27, N28, N29, N30, N31, N32, N33, N34, N35, N36, N37, N38, N39, N40, N41, N42, N43, N45, N48, N57, N59, N88, N89, N97, N99, N120, N121, N122, N179, N200, N255, N300, N400, N880, N900, N999, N1019, N50000000, N100000000, N1000000000, N2147483647, N2147483648, h, e, isb_1, goodR]
theorem m_keep : MT f_X6_keep f_X7_keep := by
  intro σ τ B ⟨m, V, E, pres, kp, d, p, L, W, dl, pl, et, b, t, s, rd, h, n, g, hG⟩ hB
  obtain ⟨bm, m10, m63⟩ := bMm hG.1
  have m24 : m = 11 ∨ m = 24 := by have := hG.1; omega
  have hQ := hG.2.2.1.1
  obtain ⟨x, σ', τ', k1, k2, k3⟩ := act_ok (B' := B + 200) (a := 1) (nn := 1) (ss := 1) (low := I 0) (K := fun σ2 => gd (bM (σ2.2.2 0 4)) (bd (f_X3_copyFrom 37 (σ2.2.2 0 4) σ2) fun _ σ4 => bd (f_X4_copyFrom 76 63 σ4) fun _ σ5 => gd (isb (1 : Int32)) (nmW (wi σ5 0 11 (1 : Int32)) fun σ6 => gd (isb (1 : Int32)) (some ((1 : Int32), σ6))))) (fr := f_X7_keep)
    hG (by omega) (by omega) (by omega) (by omega)
    (fun hc => by
      rcases tc_cases (pres := pres) (a := 1) (n := 1) (s := 1) with ⟨q1, q2⟩ | ⟨-, q2, -⟩ | ⟨-, -, q2, -⟩ | ⟨-, -, -, q2, -⟩ | ⟨-, -, -, -, q2⟩
      · rw [q2]; exact keep_r0 hG.2.2.2.1.2.1 (by rw [q1]; rfl)
      · omega
      · omega
      · omega
      · exact absurd q2 hc)
    (fun hp _ _ _ => by
      have hm : (wi σ 0 12 (I 0)).2.2 0 4 = m := hG.2.1
      obtain ⟨σ1, a1, a2, a3, a4, a5, a6, a7⟩ := cCopyM (b := 37) (m := m) (σ := wi σ 0 12 (I 0)) (by omega)
      obtain ⟨σ2, b1, b2, b3, b4, b5, b6, b7⟩ := cCopyR (b := 76) (r := 63) (σ := σ1) (x := b) (by omega) (by rw [a6 63 (by omega), wi_row (by decide)]; exact hQ.2.2.1.1.1)
      obtain ⟨τ1, c1, c2, c3, c4⟩ := rCopy (a := 112) (b := 113) (τ := wi τ 102 0 (I 0)) (by decide)
      obtain ⟨σ', hσ'⟩ : ∃ x, x = wi σ2 0 11 (I 1) := ⟨_, rfl⟩
      obtain ⟨τ', hτ'⟩ : ∃ x, x = wi (wi (wi τ1 102 25 (I 1)) 102 1 (I 0)) 102 2 (I (-1)) := ⟨_, rfl⟩
      have fc : ∀ k, k ≠ 0 → k < 37 ∨ 49 < k → k < 76 ∨ 88 < k → σ'.1 k = σ.1 k := fun k g1 g2 g3 => by rw [hσ', wi_row g1, b6 k (by omega), a6 k (by omega), wi_row g1]
      have f0 : ∀ i, i ≠ 11 → i ≠ 12 → σ'.1 0 i = σ.1 0 i := fun i g1 g2 => by rw [hσ', wi_ne g1, b6 0 (by omega), a6 0 (by omega), wi_ne g2]
      have ek : ∀ k, k ≠ 102 → k ≠ 113 → τ'.1 k = τ.1 k := fun k g1 g2 => by rw [hτ', wi_row g1, wi_row g1, wi_row g1, c3 k g2, wi_row g1]
      have e2 : ∀ i, 3 ≤ i → i ≠ 25 → τ'.1 102 i = τ.1 102 i := fun i g1 g2 => by rw [hτ', wi_ne (by omega), wi_ne (by omega), wi_ne g2, c3 102 (by decide), wi_ne (by omega)]
      have e13 : ∀ i, i < 179 → τ'.1 113 i = τ.1 112 i := fun i hi => by rw [hτ', wi_row (by decide), wi_row (by decide), wi_row (by decide), c2 i hi, wi_row (by decide)]
      have QA : QQ m 63 σ' τ' V E d p L W dl pl et b t s rd h n g := QQ_congr hQ (by omega) (fun k g1 g2 => fc k (by omega) (by omega) (by omega)) (fun k g1 g2 => fc k (by omega) (by omega) (by omega)) (fun i g1 g2 => e2 i (by omega) (by omega)) (ek 103 (by decide) (by decide)) (ek 104 (by decide) (by decide)) (ek 105 (by decide) (by decide)) (ek 112 (by decide) (by decide))
      have s37 : ∀ k, 37 ≤ k → k ≤ 49 → σ'.1 k = σ1.1 k := fun k g1 g2 => by rw [hσ', wi_row (by omega), b6 k (by omega)]
      have s76 : ∀ k, 76 ≤ k → k ≤ 88 → σ'.1 k = σ2.1 k := fun k g1 g2 => by rw [hσ', wi_row (by omega)]
      have so : ∀ k, k ≠ 0 → (wi σ 0 12 (I 0)).1 k = σ.1 k := fun k hk => wi_row hk
      have sr : ∀ k, 63 ≤ k → k ≤ 75 → σ1.1 k = σ.1 k := fun k g1 g2 => by rw [a6 k (by omega), so k (by omega)]
      have QK : QQ 37 76 σ' (wc τ' 112 (τ'.1 113)) V E d p L W dl pl et b t s rd h n g := QQ_move hQ
        (fun i hi => by rw [s37 37 (by omega) (by omega), a2 i hi, so m (by omega)]) (fun j g1 g2 i hi => by rw [s37 (37 + j) (by omega) (by omega), a3 j g1 g2 i hi, so (m + j) (by omega)]) (fun j g1 g2 i hi => by rw [s37 (37 + j) (by omega) (by omega), a4 j g1 g2 i hi, so (m + j) (by omega)]) (fun j g1 g2 i hi => by rw [s37 (37 + j) (by omega) (by omega), a5 j g1 g2 i hi, so (m + j) (by omega)])
        (fun i hi => by rw [s76 76 (by omega) (by omega), b2 i hi, sr 63 (by omega) (by omega)]) (fun j g1 g2 i hi => by rw [s76 (76 + j) (by omega) (by omega), b3 j g1 g2 i hi, sr (63 + j) (by omega) (by omega)]) (by rw [s76 (76 + 9) (by omega) (by omega), b4, sr (63 + 9) (by omega) (by omega)]) (fun j g1 g2 i hi => by rw [s76 (76 + j) (by omega) (by omega), b5 j g1 g2 i hi, sr (63 + j) (by omega) (by omega)])
        (fun i g1 g2 => by rw [wc_row (by decide)]; exact e2 i (by omega) (by omega)) (by rw [wc_row (by decide)]; exact ek 103 (by decide) (by decide)) (by rw [wc_row (by decide)]; exact ek 104 (by decide) (by decide)) (by rw [wc_row (by decide)]; exact ek 105 (by decide) (by decide)) (fun i hi => by rw [wc_eq]; exact e13 i hi)
      have tB := hG.2.2.1.2
      obtain ⟨g1, g2, -, ⟨g5, g6, g7⟩, ⟨g8, g9, g10⟩, ⟨g11, g12⟩, ⟨tp, p1, p2, p3, p4⟩⟩ := hG
      have h2 : σ'.2 = σ.2 := by rw [hσ', wi_2, b7, a7, wi_2]
      have h12 : σ'.1 0 12 = I 0 := by rw [hσ', wi_ne (by decide), b6 0 (by omega), a6 0 (by omega), wi_eq]
      refine ⟨I 1, σ', τ', ?_, by rw [keep_r1 g6 (by rw [hp]; rfl) c1, hτ'], ⟨m, V, E, pres, true, d, p, L, W, dl, pl, et, b, t, s, rd, h, n, g, ?_⟩, ⟨fun k hk => by rw [fc k (by omega) (by omega) (by omega), wi_row (by omega)], by rw [h2, wi_2]⟩, ⟨fun k hk => ek k (by omega) (by omega), by rw [hτ', wi_2, wi_2, wi_2, c4, wi_2]⟩⟩
      · show gd (bM ((wi σ 0 12 (I 0)).2.2 0 4)) (bd (f_X3_copyFrom 37 ((wi σ 0 12 (I 0)).2.2 0 4) (wi σ 0 12 (I 0))) _) = _
        rw [hm, bm, gd_t, a1, bd_s, b1, bd_s, hσ']
        rfl
      · refine ⟨by rw [h2]; exact g1, by rw [h2]; exact g2, ⟨QA, by omega⟩, ⟨by rw [f0 10 (by decide) (by decide)]; exact g5, by rw [e2 21 (by decide) (by decide)]; exact g6, g7⟩, ⟨by rw [hσ', wi_eq]; rfl, by rw [hτ', wi_ne (by decide), wi_ne (by decide), wi_eq]; rfl, fun _ => ⟨hp, d, W, pl, b, t, s, rd, h, n, g, QK, by omega⟩⟩,
          ⟨⟨by rw [h12, hτ', wi_ne (by decide), wi_eq], fun q => ?_, fun _ => by rw [hτ', wi_eq]⟩, by rw [f0 13 (by decide) (by decide), e2 33 (by decide) (by decide)]; exact g12⟩, ⟨tp, p1, by rw [fc 1 (by decide) (by decide) (by decide)]; exact p2, by rw [e2 27 (by decide) (by decide)]; exact p3, fun i hi => by rw [fc 2 (by decide) (by decide) (by decide), ek 115 (by decide) (by decide)]; exact p4 i hi⟩⟩
        rw [h12, I_eq (by unfold R; omega) (by unfold R; omega)] at q
        omega)
  exact ⟨x, σ', τ', k1, k2, k3⟩
