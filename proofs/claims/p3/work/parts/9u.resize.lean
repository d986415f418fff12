/-! PURE: resize, call -/
theorem resize_1 {τ : Wd} {v k q : Int} (e : f_X7_isVenue (I v) (wi τ 102 0 (I 0)) = some (I 0, wi τ 102 0 (I 0))) : f_X7_resize (I v) (I k) (I q) τ = some (I (-1), refW τ (I 1)) := by
  unfold f_X7_resize refW f_X7_resize_28
  simp (disch := omega) only [gd_t, bd_s, nm_W, nm_I, I_add, I_sub, I_mul, I_neg, I_le_t, I_le_f, I_lt_t, I_lt_f, I_eq_t, I_eq_f, I_inb', I_ix', Int.toNat_natCast, decide_true, decide_false, Bool.not_false, Bool.not_true, if_true, if_false, wi_eq, wi_eq', wi_ne, wi_row, wi_2, N0, N1, N2, N3, N4, N5, N6, N7, N8, N9, N10, N11, N12, N13, N14, N15, N16, N17, N18, N19, N20, N21, N22, N23, N24, N25, N26, N27, N28, N29, N30, N31, N32, N33, N34, N35, N36, N37, N38, N39, N40, N41, N42, N43, N45, N48, N57, N59, N88, N89, N97, N99, N120, N121, N122, N179, N200, N255, N300, N400, N880, N900, N999, N1019, N50000000, N100000000, N1000000000, N2147483647, N2147483648, e, refR]
theorem resize_2 {τ : Wd} {v : Nat} {k q l a c : Int} (v5 : v < 5) (e : f_X7_isVenue (I (v : Int)) (wi τ 102 0 (I 0)) = some (I 1, wi τ 102 0 (I 0))) (h4 : τ.1 103 (5 * v + 4) = I l) (e2 : f_X7_in (I k) (I 0) (I (l - 1)) (wi τ 102 0 (I 0)) = some (I a, wi τ 102 0 (I 0))) (e3 : f_X7_in (I q) (I 0) (I 99) (wi τ 102 0 (I 0)) = some (I c, wi τ 102 0 (I 0))) (h : a = 0 ∨ (a = 1 ∧ c = 0)) : f_X7_resize (I (v : Int)) (I k) (I q) τ = some (I (-1), refW τ (I (if a = 0 then 1 else 2))) := by
  have tv := levels7 (σ := wi τ 102 0 (I 0)) v5
  rw [wi_row (by decide), h4] at tv
  rcases h with h | ⟨h, h2⟩
  · rw [if_pos h]
    unfold f_X7_resize refW f_X7_resize_28
    simp (disch := omega) only [gd_t, bd_s, nm_W, nm_I, I_add, I_sub, I_mul, I_neg, I_le_t, I_le_f, I_lt_t, I_lt_f, I_eq_t, I_eq_f, I_inb', I_ix', Int.toNat_natCast, decide_true, decide_false, Bool.not_false, Bool.not_true, if_true, if_false, wi_eq, wi_eq', wi_ne, wi_row, wi_2, N0, N1, N2, N3, N4, N5, N6, N7, N8, N9, N10, N11, N12, N13, N14, N15, N16, N17, N18, N19, N20, N21, N22, N23, N24, N25, N26, N27, N28, N29, N30, N31, N32, N33, N34, N35, N36, N37, N38, N39, N40, N41, N42, N43, N45, N48, N57, N59, N88, N89, N97, N99, N120, N121, N122, N179, N200, N255, N300, N400, N880, N900, N999, N1019, N50000000, N100000000, N1000000000, N2147483647, N2147483648, e, tv, e2, refR]
  · rw [if_neg (by omega)]
    unfold f_X7_resize refW
    simp (disch := omega) only [gd_t, bd_s, nm_W, nm_I, I_add, I_sub, I_mul, I_neg, I_le_t, I_le_f, I_lt_t, I_lt_f, I_eq_t, I_eq_f, I_inb', I_ix', Int.toNat_natCast, decide_true, decide_false, Bool.not_false, Bool.not_true, if_true, if_false, wi_eq, wi_eq', wi_ne, wi_row, wi_2, N0, N1, N2, N3, N4, N5, N6, N7, N8, N9, N10, N11, N12, N13, N14, N15, N16, N17, N18, N19, N20, N21, N22, N23, N24, N25, N26, N27, N28, N29, N30, N31, N32, N33, N34, N35, N36, N37, N38, N39, N40, N41, N42, N43, N45, N48, N57, N59, N88, N89, N97, N99, N120, N121, N122, N179, N200, N255, N300, N400, N880, N900, N999, N1019, N50000000, N100000000, N1000000000, N2147483647, N2147483648, e, tv, e2, e3, refR]
theorem resize_3 {τ : Wd} {v k : Nat} {q l y : Int} (v5 : v < 5) (k6 : k < 6) (e : f_X7_isVenue (I (v : Int)) (wi τ 102 0 (I 0)) = some (I 1, wi τ 102 0 (I 0))) (h4 : τ.1 103 (5 * v + 4) = I l) (e2 : f_X7_in (I (k : Int)) (I 0) (I (l - 1)) (wi τ 102 0 (I 0)) = some (I 1, wi τ 102 0 (I 0))) (e3 : f_X7_in (I q) (I 0) (I 99) (wi τ 102 0 (I 0)) = some (I 1, wi τ 102 0 (I 0))) (hy : τ.1 112 (6 * v + k) = I y) :
    f_X7_resize (I (v : Int)) (I (k : Int)) (I q) τ = some (I y, wi (wi (wi (wi τ 102 0 (I 0)) 112 (6 * v + k) (I q)) 102 1 (I 0)) 102 2 (I (-1))) := by
  have tv := levels7 (σ := wi τ 102 0 (I 0)) v5
  rw [wi_row (by decide), h4] at tv
  have s7 := size7 (σ := wi τ 102 0 (I 0)) v5 k6
  rw [wi_row (by decide), hy] at s7
  have t2 : ((0 : Int) + 6 * (v : Int) + (k : Int)).toNat = 6 * v + k := by omega
  unfold f_X7_resize
  simp (disch := omega) only [gd_t, bd_s, nm_W, nm_I, I_add, I_sub, I_mul, I_neg, I_le_t, I_le_f, I_lt_t, I_lt_f, I_eq_t, I_eq_f, I_inb', I_ix', Int.toNat_natCast, decide_true, decide_false, Bool.not_false, Bool.not_true, if_true, if_false, wi_eq, wi_eq', wi_ne, wi_row, wi_2, N0, N1, N2, N3, N4, N5, N6, N7, N8, N9, N10, N11, N12, N13, N14, N15, N16, N17, N18, N19, N20, N21, N22, N23, N24, N25, N26, N27, N28, N29, N30, N31, N32, N33, N34, N35, N36, N37, N38, N39, N40, N41, N42, N43, N45, N48, N57, N59, N88, N89, N97, N99, N120, N121, N122, N179, N200, N255, N300, N400, N880, N900, N999, N1019, N50000000, N100000000, N1000000000, N2147483647, N2147483648, e, tv, e2, e3, s7, t2, goodR]
set_option maxHeartbeats 1000000 in
theorem m_resize (x y z : Int32) : MT (f_X6_resize x y z) (f_X7_resize x y z) := by
  intro σ τ B ⟨m, V, E, pres, kp, d, p, L, W, dl, pl, et, b, t, s, rd, h, n, g, hG⟩ hB
  obtain ⟨v, rfl, hv⟩ := argI x
  obtain ⟨k, rfl, hk⟩ := argI y
  obtain ⟨q, rfl, hq⟩ := argI z
  obtain ⟨bm, m10, m63⟩ := bMm hG.1
  have m24 : m = 11 ∨ m = 24 := by have := hG.1; omega
  have hQ := hG.2.2.1.1
  have hM0 := hQ.1
  have h5 := hM0.1.1
  have g21 : (wi τ 102 0 (I 0)).1 102 21 = I (bn pres) := by rw [wi_ne (by decide)]; exact hG.2.2.2.1.2.1
  have g14 : (wi τ 102 0 (I 0)).1 102 14 = I (V : Int) := by rw [wi_ne (by decide)]; exact hM0.2.2.1.1
  have c1 := cIsV (σ := σ) hv hG.2.1 bm hM0.2.1.1 h5
  obtain ⟨l, hl⟩ : ∃ l : Nat, l = if 0 ≤ v ∧ v < (V : Int) then d.lv v.toNat else 0 := ⟨_, rfl⟩
  have lb : l ≤ 6 := by
    split at hl
    · rw [hl]; exact lv6 hM0.1 _ (by omega)
    · omega
  have lv : 0 ≤ v ∧ v < (V : Int) → l = d.lv v.toNat := fun q => by rw [hl, if_pos q]
  have c2 := c_isLevel (k := k) (l := (l : Int)) hG.2.1 bm c1 (bn_bnd _) hk (fun q => by have := bn_1 q; omega) (fun q => by have y := bn_1 q; rw [lv y]; exact (hM0.2.1.2 v.toNat (by omega)).2.2.2.2.1) (by omega)
  have c3 := cWithin (σ := σ) (lo := 0) (hi := 99) hq (by unfold R; omega) (by unfold R; omega)
  have ri : f_X7_in (I k) (I 0) (I ((l : Int) - 1)) (wi τ 102 0 (I 0)) = some (I (bn (decide (0 ≤ k ∧ k ≤ (l : Int) - 1))), wi τ 102 0 (I 0)) := rIn hk (by unfold R; omega) (by unfold R; omega)
  have rq := rIn (σ := wi τ 102 0 (I 0)) (lo := 0) (hi := 99) hq (by unfold R; omega) (by unfold R; omega)
  obtain ⟨x, σ', τ', k1, k2, k3⟩ := act_ok (B' := B + 200) (a := bn (decide (bn (decide (0 ≤ v ∧ v < (V : Int))) = 1 ∧ 0 ≤ k ∧ k < (l : Int)))) (nn := bn (decide (0 ≤ q ∧ q ≤ 99))) (ss := 1) (low := I (-1)) (K := fun σ6 => bd (f_X6_slot (I v) (I k) σ6) fun r7 σ8 => gd (bM (σ8.2.2 0 4)) (gd (inb r7 30) (gd (bM (σ8.2.2 0 4)) (gd (inb r7 30) (nmW (wi σ8 ((σ8.2.2 0 4) + 9) (ix r7) (I q)) fun σ11 => some (σ8.1 ((σ8.2.2 0 4) + 9) (ix r7), σ11)))))) (fr := f_X7_resize (I v) (I k) (I q))
    hG (by omega) (bn_bnd _) (bn_bnd _) (by omega)
    (fun hc => by
      rcases tc_cases (pres := pres) (a := bn (decide (bn (decide (0 ≤ v ∧ v < (V : Int))) = 1 ∧ 0 ≤ k ∧ k < (l : Int)))) (n := bn (decide (0 ≤ q ∧ q ≤ 99))) (s := 1) with ⟨q1, q2⟩ | ⟨q1, q2, q3⟩ | ⟨q1, q2, q3, q4⟩ | ⟨-, -, -, q2, -⟩ | ⟨-, -, -, -, q2⟩
      · rw [q2]; exact resize_1 (rIsV0 hv g21 (bn_bnd _) g14 h5 (Or.inl (by rw [q1]; rfl)))
      · rw [q3]
        by_cases y : 0 ≤ v ∧ v < (V : Int)
        · have ev := rIsV1 (τ := wi τ 102 0 (I 0)) (x := bn pres) hv g21 (by rw [q1]; rfl) g14 h5 y.1 y.2
          have lv := lv y
          obtain ⟨u, rfl⟩ := Int.eq_ofNat_of_zero_le y.1
          have kn : ¬ (0 ≤ k ∧ k ≤ (l : Int) - 1) := fun w1 => by
            rw [decide_eq_true y, decide_eq_true (show bn true = 1 ∧ 0 ≤ k ∧ k < (l : Int) from ⟨rfl, by omega, by omega⟩)] at q2
            cases q2
          have e := resize_2 (q := q) (l := (l : Int)) (by omega) ev (by rw [lv, Int.toNat_natCast]; exact (hM0.2.2.1.2 u (by omega)).2.2.2.2.1) ri rq (Or.inl (by rw [decide_eq_false kn]; rfl))
          rw [e, if_pos (by rw [decide_eq_false kn]; rfl)]
          rfl
        · exact resize_1 (rIsV0 hv g21 (bn_bnd _) g14 h5 (Or.inr y))
      · have q2 := bn_n0 q2
        have y := bn_1 q2.1
        have ev := rIsV1 (τ := wi τ 102 0 (I 0)) (x := bn pres) hv g21 (by rw [q1]; rfl) g14 h5 y.1 y.2
        have lv := lv y
        obtain ⟨u, rfl⟩ := Int.eq_ofNat_of_zero_le y.1
        have w1 : 0 ≤ k ∧ k ≤ (l : Int) - 1 := by omega
        have e := resize_2 (q := q) (l := (l : Int)) (by omega) ev (by rw [lv, Int.toNat_natCast]; exact (hM0.2.2.1.2 u (by omega)).2.2.2.2.1) ri rq (Or.inr ⟨by rw [decide_eq_true w1]; rfl, q3⟩)
        rw [q4, e, if_neg (by rw [decide_eq_true w1]; decide)]
        rfl
      · omega
      · exact absurd q2 hc)
    (fun hp ha hn _ => by
      obtain ⟨q3, k0, kl⟩ := bn_1 ha
      have yq := bn_1 hn
      have y := bn_1 q3
      have ev := rIsV1 (τ := wi τ 102 0 (I 0)) (x := bn pres) hv g21 (by rw [hp]; rfl) g14 h5 y.1 y.2
      have lv := lv y
      obtain ⟨u, rfl⟩ := Int.eq_ofNat_of_zero_le y.1
      obtain ⟨j, rfl⟩ := Int.eq_ofNat_of_zero_le k0
      have hu : u < V := by omega
      rw [Int.toNat_natCast] at lv
      have hj : j < d.lv u := by omega
      have a2 := ((hM0.2.1.2 u hu).2.2.2.2.2 j hj).2
      have b2 := ((hM0.2.2.1.2 u hu).2.2.2.2.2 j hj).2
      have e := resize_3 (q := q) (l := (l : Int)) (k := j) (by omega) (by omega) ev (by rw [lv]; exact (hM0.2.2.1.2 u hu).2.2.2.2.1) (rIn1 hk (by unfold R; omega) (by unfold R; omega) ⟨by omega, by omega⟩) (rIn1 hq (by unfold R; omega) (by unfold R; omega) yq) b2
      obtain ⟨hM, hE, hR, hN, hP, hL, hn, hrd, hb, hz⟩ := hQ
      obtain ⟨τ', hτ'⟩ : ∃ x, x = wi (wi (wi (wi τ 102 0 (I 0)) 112 (6 * u + j) (I q)) 102 1 (I 0)) 102 2 (I (-1)) := ⟨_, rfl⟩
      obtain ⟨σ', hσ'⟩ : ∃ x, x = wi (wi σ 0 12 (I 0)) (m + 9) (6 * u + j) (I q) := ⟨_, rfl⟩
      have fc : ∀ k, k ≠ 0 → k ≠ m + 9 → σ'.1 k = σ.1 k := fun k g1 g2 => by rw [hσ', wi_row g2, wi_row g1]
      have fk : ∀ k, k ≠ 102 → k ≠ 112 → τ'.1 k = τ.1 k := fun k g1 g2 => by rw [hτ', wi_row g1, wi_row g1, wi_row g2, wi_row g1]
      have f2 : ∀ i, 3 ≤ i → τ'.1 102 i = τ.1 102 i := fun i g1 => by rw [hτ', wi_ne (by omega), wi_ne (by omega), wi_row (by decide), wi_ne (by omega)]
      have fx : ∀ i, 30 ≤ i → τ'.1 112 i = τ.1 112 i := fun i g1 => by rw [hτ', wi_row (by decide), wi_row (by decide), wi_ne (by omega), wi_row (by decide)]
      have cv' : CV m σ' V (dz d (6 * u + j) q) := by rw [hσ']; exact CV_dz (CV_rows hM.2.1 (fun k g1 g2 => wi_row (by omega)))
      have rv' : RV τ' V (dz d (6 * u + j) q) := by
        have r1 : RV (wi (wi τ 102 0 (I 0)) 112 (6 * u + j) (I q)) V (dz d (6 * u + j) q) := RV_dz (RV_congr hM.2.2.1 (by rw [wi_ne (by decide)]) (wi_row (by decide)) (wi_row (by decide)) (wi_row (by decide))) (by omega)
        exact RV_congr r1 (by rw [hτ', wi_ne (by decide), wi_ne (by decide)]) (by rw [hτ', wi_row (by decide), wi_row (by decide)]) (by rw [hτ', wi_row (by decide), wi_row (by decide)]) (by rw [hτ', wi_row (by decide), wi_row (by decide)])
      have QQ' : QQ m 63 σ' τ' V E (dz d (6 * u + j) q) p L W dl pl et b t s rd h n g := by
        refine ⟨QM_congr hM (MDok_dz hM.1 yq.1 yq.2) cv' rv' (fun i hi => by rw [fc m (by omega) (by omega)]) (fc _ (by omega) (by omega)) (fc _ (by omega) (by omega)) (f2 12 (by decide)) (f2 13 (by decide)) (fk 103 (by decide) (by decide)) (fx 35 (by decide)) (fun v hv => fx _ (by omega)), QE_congr hE (by rw [fc m (by omega) (by omega)]) (fc _ (by omega) (by omega)) (fc _ (by omega) (by omega)) (fc _ (by omega) (by omega)) (f2 15 (by decide)) (fk 105 (by decide) (by decide)),
          QR_rows hR (fun i _ => by rw [fc 63 (by decide) (by omega)]) (fun i _ _ => fx i (by omega)) (by rw [fc 63 (by decide) (by omega), fx 42 (by decide)]; exact hR.2.2.2.2.2.2), ?_, fun w hw => QP_congr (hP w hw) (fun k g1 g2 => by rw [fc k (by omega) (by omega)]) (fun i g1 g2 => fx i (by omega)) (fk 103 (by decide) (by decide)), LR_congr hL rfl rfl (fun k g1 g2 => fc k (by omega) (by omega)) (fun i hi => fx i (by omega)), hn, by rw [fc 63 (by decide) (by omega)]; exact hrd, hb, hz⟩
        obtain ⟨np, n1, n2⟩ := hN
        exact ⟨np, by rw [fc 63 (by decide) (by omega)]; exact n1, n2⟩
      have tB := hG.2.2.1.2
      refine ⟨I (d.sz (6 * u + j)), σ', τ', ?_, by rw [e, hτ'], ⟨m, V, E, pres, kp, dz d (6 * u + j) q, p, L, W, dl, pl, et, b, t, s, rd, h, n, g, GA_act hG hp (by omega) QQ' (by omega) (fun k hk => fc k (by omega) (by omega)) (fun i hi => by rw [hσ', wi_row (by omega), wi_ne hi]) (by rw [hσ', wi_2, wi_2]) (fun k g1 g2 g3 => fk k (by omega) g3) (fun i g1 _ => f2 i g1) (by rw [hσ', wi_row (by omega), wi_eq]) (by rw [hτ', wi_ne (by decide), wi_eq]) (by rw [hτ', wi_eq])⟩, ⟨fun k hk => by rw [hσ', wi_row (by omega)], by rw [hσ', wi_2]⟩, ⟨fun k hk => fk k (by omega) (by omega), by rw [hτ', wi_2, wi_2, wi_2, wi_2]⟩⟩
      have hm : (wi σ 0 12 (I 0)).2.2 0 4 = m := hG.2.1
      have i1 : inb (I ((6 * u + j : Nat) : Int)) 30 = true := inI (by omega) (by decide)
      have i2 : ix (I ((6 * u + j : Nat) : Int)) = 6 * u + j := ixI (by omega)
      show bd (f_X6_slot (I (u : Int)) (I (j : Int)) (wi σ 0 12 (I 0))) (fun r7 σ8 => gd (bM (σ8.2.2 0 4)) (gd (inb r7 30) (gd (bM (σ8.2.2 0 4)) (gd (inb r7 30) (nmW (wi σ8 ((σ8.2.2 0 4) + 9) (ix r7) (I q)) fun σ11 => some (σ8.1 ((σ8.2.2 0 4) + 9) (ix r7), σ11)))))) = _
      rw [slot_ok (by omega) (by omega), bd_s, hm, bm, i1, gd_t, gd_t, gd_t, gd_t, nm_W, i2, wi_row (show m + 9 ≠ 0 by omega), a2, hσ'])
  refine ⟨x, σ', τ', ?_, k2, k3⟩
  unfold f_X6_resize
  rw [c2, bd_s, show (0 : Int32) = I 0 from rfl, show (99 : Int32) = I 99 from rfl, c3, bd_s]
  exact k1
/-! call -/
theorem c_can {σ : Wd} {v : Nat} {bg h k t : Int} (v5 : v < 5) (h0 : σ.1 63 0 = I bg) (hb : 0 ≤ bg ∧ bg ≤ 1) (h1 : σ.1 64 v = I h) (hh : 0 ≤ h ∧ h ≤ 3) (h8 : h = 1 ∨ h = 2 → σ.1 71 v = I k) (ht : σ.1 63 1 = I t) (t0 : 0 ≤ t ∧ t ≤ 1000000) (kb : -2 ≤ k ∧ k ≤ 2000000) : f_X4_canBeCalled 63 (I (v : Int)) σ = some (I (bn (decide (bg = 1 ∧ (h = 1 ∨ h = 2) ∧ k ≤ t))), σ) := by
  have e1 : σ.1 (63 + 1) v = I h := h1
  by_cases c0 : bg = 0
  · rw [decide_eq_false (by omega), bn_f]
    unfold f_X4_canBeCalled f_X4_canBeCalled_44 f_X4_canBeCalled_45
    simp (disch := omega) only [gd_t, bd_s, nm_W, nm_I, I_add, I_sub, I_mul, I_neg, I_le_t, I_le_f, I_lt_t, I_lt_f, I_eq_t, I_eq_f, I_inb', I_ix', Int.toNat_natCast, decide_true, decide_false, Bool.not_false, Bool.not_true, if_true, if_false, wi_eq, wi_eq', wi_ne, wi_row, wi_2, N0, N1, N2, N3, N4, N5, N6, N7, N8, N9, N10, N11, N12, N13, N14, N15, N16, N17, N18, N19, N20, N21, N22, N23, N24, N25, N26, N27, N28, N29, N30, N31, N32, N33, N34, N35, N36, N37, N38, N39, N40, N41, N42, N43, N45, N48, N57, N59, N88, N89, N97, N99, N120, N121, N122, N179, N200, N255, N300, N400, N880, N900, N999, N1019, N50000000, N100000000, N1000000000, N2147483647, N2147483648, h0, isb_0]
  · by_cases c1 : h = 1 ∨ h = 2
    · have e8 : σ.1 (63 + 8) v = I k := h8 c1
      by_cases c2 : k ≤ t
      · rw [decide_eq_true ⟨by omega, c1, c2⟩, bn_t]
        unfold f_X4_canBeCalled f_X4_canBeCalled_27 f_X4_canBeCalled_45
        rcases c1 with c1 | c1
        · simp (disch := omega) only [gd_t, bd_s, nm_W, nm_I, I_add, I_sub, I_mul, I_neg, I_le_t, I_le_f, I_lt_t, I_lt_f, I_eq_t, I_eq_f, I_inb', I_ix', Int.toNat_natCast, decide_true, decide_false, Bool.not_false, Bool.not_true, if_true, if_false, wi_eq, wi_eq', wi_ne, wi_row, wi_2, N0, N1, N2, N3, N4, N5, N6, N7, N8, N9, N10, N11, N12, N13, N14, N15, N16, N17, N18, N19, N20, N21, N22, N23, N24, N25, N26, N27, N28, N29, N30, N31, N32, N33, N34, N35, N36, N37, N38, N39, N40, N41, N42, N43, N45, N48, N57, N59, N88, N89, N97, N99, N120, N121, N122, N179, N200, N255, N300, N400, N880, N900, N999, N1019, N50000000, N100000000, N1000000000, N2147483647, N2147483648, h0, e1, e8, ht, isb_1]
        · simp (disch := omega) only [gd_t, bd_s, nm_W, nm_I, I_add, I_sub, I_mul, I_neg, I_le_t, I_le_f, I_lt_t, I_lt_f, I_eq_t, I_eq_f, I_inb', I_ix', Int.toNat_natCast, decide_true, decide_false, Bool.not_false, Bool.not_true, if_true, if_false, wi_eq, wi_eq', wi_ne, wi_row, wi_2, N0, N1, N2, N3, N4, N5, N6, N7, N8, N9, N10, N11, N12, N13, N14, N15, N16, N17, N18, N19, N20, N21, N22, N23, N24, N25, N26, N27, N28, N29, N30, N31, N32, N33, N34, N35, N36, N37, N38, N39, N40, N41, N42, N43, N45, N48, N57, N59, N88, N89, N97, N99, N120, N121, N122, N179, N200, N255, N300, N400, N880, N900, N999, N1019, N50000000, N100000000, N1000000000, N2147483647, N2147483648, h0, e1, e8, ht, isb_1]
      · rw [decide_eq_false (by omega), bn_f]
        unfold f_X4_canBeCalled f_X4_canBeCalled_27 f_X4_canBeCalled_44 f_X4_canBeCalled_45
        rcases c1 with c1 | c1
        · simp (disch := omega) only [gd_t, bd_s, nm_W, nm_I, I_add, I_sub, I_mul, I_neg, I_le_t, I_le_f, I_lt_t, I_lt_f, I_eq_t, I_eq_f, I_inb', I_ix', Int.toNat_natCast, decide_true, decide_false, Bool.not_false, Bool.not_true, if_true, if_false, wi_eq, wi_eq', wi_ne, wi_row, wi_2, N0, N1, N2, N3, N4, N5, N6, N7, N8, N9, N10, N11, N12, N13, N14, N15, N16, N17, N18, N19, N20, N21, N22, N23, N24, N25, N26, N27, N28, N29, N30, N31, N32, N33, N34, N35, N36, N37, N38, N39, N40, N41, N42, N43, N45, N48, N57, N59, N88, N89, N97, N99, N120, N121, N122, N179, N200, N255, N300, N400, N880, N900, N999, N1019, N50000000, N100000000, N1000000000, N2147483647, N2147483648, h0, e1, e8, ht, isb_0]
        · simp (disch := omega) only [gd_t, bd_s, nm_W, nm_I, I_add, I_sub, I_mul, I_neg, I_le_t, I_le_f, I_lt_t, I_lt_f, I_eq_t, I_eq_f, I_inb', I_ix', Int.toNat_natCast, decide_true, decide_false, Bool.not_false, Bool.not_true, if_true, if_false, wi_eq, wi_eq', wi_ne, wi_row, wi_2, N0, N1, N2, N3, N4, N5, N6, N7, N8, N9, N10, N11, N12, N13, N14, N15, N16, N17, N18, N19, N20, N21, N22, N23, N24, N25, N26, N27, N28, N29, N30, N31, N32, N33, N34, N35, N36, N37, N38, N39, N40, N41, N42, N43, N45, N48, N57, N59, N88, N89, N97, N99, N120, N121, N122, N179, N200, N255, N300, N400, N880, N900, N999, N1019, N50000000, N100000000, N1000000000, N2147483647, N2147483648, h0, e1, e8, ht, isb_0]
    · rw [decide_eq_false (by omega), bn_f]
      unfold f_X4_canBeCalled f_X4_canBeCalled_44 f_X4_canBeCalled_45
      simp (disch := omega) only [gd_t, bd_s, nm_W, nm_I, I_add, I_sub, I_mul, I_neg, I_le_t, I_le_f, I_lt_t, I_lt_f, I_eq_t, I_eq_f, I_inb', I_ix', Int.toNat_natCast, decide_true, decide_false, Bool.not_false, Bool.not_true, if_true, if_false, wi_eq, wi_eq', wi_ne, wi_row, wi_2, N0, N1, N2, N3, N4, N5, N6, N7, N8, N9, N10, N11, N12, N13, N14, N15, N16, N17, N18, N19, N20, N21, N22, N23, N24, N25, N26, N27, N28, N29, N30, N31, N32, N33, N34, N35, N36, N37, N38, N39, N40, N41, N42, N43, N45, N48, N57, N59, N88, N89, N97, N99, N120, N121, N122, N179, N200, N255, N300, N400, N880, N900, N999, N1019, N50000000, N100000000, N1000000000, N2147483647, N2147483648, h0, e1, isb_0]
theorem call_1 {τ : Wd} {v a c : Int} (e : f_X7_isVenue (I v) (wi τ 102 0 (I 0)) = some (I a, wi τ 102 0 (I 0))) (e2 : f_X7_refusesRun (I a) (wi τ 102 0 (I 0)) = some (I c, wi τ 102 0 (I 0))) (hc : 1 ≤ c ∧ c ≤ 5) : f_X7_call (I v) τ = some (I (-1), refW τ (I c)) := by
  unfold f_X7_call refW
  simp (disch := omega) only [gd_t, bd_s, nm_W, nm_I, I_add, I_sub, I_mul, I_neg, I_le_t, I_le_f, I_lt_t, I_lt_f, I_eq_t, I_eq_f, I_inb', I_ix', Int.toNat_natCast, decide_true, decide_false, Bool.not_false, Bool.not_true, if_true, if_false, wi_eq, wi_eq', wi_ne, wi_row, wi_2, N0, N1, N2, N3, N4, N5, N6, N7, N8, N9, N10, N11, N12, N13, N14, N15, N16, N17, N18, N19, N20, N21, N22, N23, N24, N25, N26, N27, N28, N29, N30, N31, N32, N33, N34, N35, N36, N37, N38, N39, N40, N41, N42, N43, N45, N48, N57, N59, N88, N89, N97, N99, N120, N121, N122, N179, N200, N255, N300, N400, N880, N900, N999, N1019, N50000000, N100000000, N1000000000, N2147483647, N2147483648, e, e2, refR]
theorem call_5 {τ : Wd} {v : Nat} {h k : Int} (v5 : v < 5) (e : f_X7_isVenue (I (v : Int)) (wi τ 102 0 (I 0)) = some (I 1, wi τ 102 0 (I 0))) (e2 : f_X7_refusesRun (I 1) (wi τ 102 0 (I 0)) = some (I 0, wi τ 102 0 (I 0))) (h1 : τ.1 112 (48 + 8 * v) = I h) (hh : 0 ≤ h ∧ h ≤ 3) (h6 : τ.1 112 (54 + 8 * v) = I k) (kb : -2 ≤ k ∧ k ≤ 2000000) (hn : ¬ ((h = 1 ∨ h = 2) ∧ k = -2)) : f_X7_call (I (v : Int)) τ = some (I (-1), refW τ (I 5)) := by
  have t0 : ((48 : Int) + 8 * (v : Int) + 0).toNat = 48 + 8 * v := by omega
  have t6 : ((48 : Int) + 8 * (v : Int) + 6).toNat = 54 + 8 * v := by omega
  unfold f_X7_call f_X7_call_54 f_X7_call_68 refW f_X7_partAt
  by_cases c1 : h = 1
  · simp (disch := omega) only [gd_t, bd_s, nm_W, nm_I, I_add, I_sub, I_mul, I_neg, I_le_t, I_le_f, I_lt_t, I_lt_f, I_eq_t, I_eq_f, I_inb', I_ix', Int.toNat_natCast, decide_true, decide_false, Bool.not_false, Bool.not_true, if_true, if_false, wi_eq, wi_eq', wi_ne, wi_row, wi_2, N0, N1, N2, N3, N4, N5, N6, N7, N8, N9, N10, N11, N12, N13, N14, N15, N16, N17, N18, N19, N20, N21, N22, N23, N24, N25, N26, N27, N28, N29, N30, N31, N32, N33, N34, N35, N36, N37, N38, N39, N40, N41, N42, N43, N45, N48, N57, N59, N88, N89, N97, N99, N120, N121, N122, N179, N200, N255, N300, N400, N880, N900, N999, N1019, N50000000, N100000000, N1000000000, N2147483647, N2147483648, e, e2, t0, t6, h1, h6, refR]
  · by_cases c2 : h = 2
    · simp (disch := omega) only [gd_t, bd_s, nm_W, nm_I, I_add, I_sub, I_mul, I_neg, I_le_t, I_le_f, I_lt_t, I_lt_f, I_eq_t, I_eq_f, I_inb', I_ix', Int.toNat_natCast, decide_true, decide_false, Bool.not_false, Bool.not_true, if_true, if_false, wi_eq, wi_eq', wi_ne, wi_row, wi_2, N0, N1, N2, N3, N4, N5, N6, N7, N8, N9, N10, N11, N12, N13, N14, N15, N16, N17, N18, N19, N20, N21, N22, N23, N24, N25, N26, N27, N28, N29, N30, N31, N32, N33, N34, N35, N36, N37, N38, N39, N40, N41, N42, N43, N45, N48, N57, N59, N88, N89, N97, N99, N120, N121, N122, N179, N200, N255, N300, N400, N880, N900, N999, N1019, N50000000, N100000000, N1000000000, N2147483647, N2147483648, e, e2, t0, t6, h1, h6, refR]
    · simp (disch := omega) only [gd_t, bd_s, nm_W, nm_I, I_add, I_sub, I_mul, I_neg, I_le_t, I_le_f, I_lt_t, I_lt_f, I_eq_t, I_eq_f, I_inb', I_ix', Int.toNat_natCast, decide_true, decide_false, Bool.not_false, Bool.not_true, if_true, if_false, wi_eq, wi_eq', wi_ne, wi_row, wi_2, N0, N1, N2, N3, N4, N5, N6, N7, N8, N9, N10, N11, N12, N13, N14, N15, N16, N17, N18, N19, N20, N21, N22, N23, N24, N25, N26, N27, N28, N29, N30, N31, N32, N33, N34, N35, N36, N37, N38, N39, N40, N41, N42, N43, N45, N48, N57, N59, N88, N89, N97, N99, N120, N121, N122, N179, N200, N255, N300, N400, N880, N900, N999, N1019, N50000000, N100000000, N1000000000, N2147483647, N2147483648, e, e2, t0, h1, refR]
theorem call_0 {τ : Wd} {v : Nat} {h k t D : Int} (v5 : v < 5) (e : f_X7_isVenue (I (v : Int)) (wi τ 102 0 (I 0)) = some (I 1, wi τ 102 0 (I 0))) (e2 : f_X7_refusesRun (I 1) (wi τ 102 0 (I 0)) = some (I 0, wi τ 102 0 (I 0))) (h1 : τ.1 112 (48 + 8 * v) = I h) (hh : h = 1 ∨ h = 2) (h6 : τ.1 112 (54 + 8 * v) = I k) (kb : k = -2) (ht : τ.1 112 37 = I t) (hD : τ.1 103 (5 * v + 3) = I D) : f_X7_call (I (v : Int)) τ = some (I (t + D), wi (wi (wi (wi τ 102 0 (I 0)) 112 (54 + 8 * v) (I (t + D))) 102 1 (I 0)) 102 2 (I (-1))) := by
  have t0 : ((48 : Int) + 8 * (v : Int) + 0).toNat = 48 + 8 * v := by omega
  have t6 : ((48 : Int) + 8 * (v : Int) + 6).toNat = 54 + 8 * v := by omega
  have w37 : Int.toNat 37 = 37 := rfl
  have t3 : ((5 : Int) * (v : Int) + 3).toNat = 5 * v + 3 := by omega
  unfold f_X7_call f_X7_call_54 f_X7_partAt
  rcases hh with c1 | c1
  · simp (disch := omega) only [gd_t, bd_s, nm_W, nm_I, I_add, I_sub, I_mul, I_neg, I_le_t, I_le_f, I_lt_t, I_lt_f, I_eq_t, I_eq_f, I_inb', I_ix', Int.toNat_natCast, decide_true, decide_false, Bool.not_false, Bool.not_true, if_true, if_false, wi_eq, wi_eq', wi_ne, wi_row, wi_2, N0, N1, N2, N3, N4, N5, N6, N7, N8, N9, N10, N11, N12, N13, N14, N15, N16, N17, N18, N19, N20, N21, N22, N23, N24, N25, N26, N27, N28, N29, N30, N31, N32, N33, N34, N35, N36, N37, N38, N39, N40, N41, N42, N43, N45, N48, N57, N59, N88, N89, N97, N99, N120, N121, N122, N179, N200, N255, N300, N400, N880, N900, N999, N1019, N50000000, N100000000, N1000000000, N2147483647, N2147483648, e, e2, t0, t6, h1, h6, w37, ht, f_X7_told, t3, hD, goodR]
  · simp (disch := omega) only [gd_t, bd_s, nm_W, nm_I, I_add, I_sub, I_mul, I_neg, I_le_t, I_le_f, I_lt_t, I_lt_f, I_eq_t, I_eq_f, I_inb', I_ix', Int.toNat_natCast, decide_true, decide_false, Bool.not_false, Bool.not_true, if_true, if_false, wi_eq, wi_eq', wi_ne, wi_row, wi_2, N0, N1, N2, N3, N4, N5, N6, N7, N8, N9, N10, N11, N12, N13, N14, N15, N16, N17, N18, N19, N20, N21, N22, N23, N24, N25, N26, N27, N28, N29, N30, N31, N32, N33, N34, N35, N36, N37, N38, N39, N40, N41, N42, N43, N45, N48, N57, N59, N88, N89, N97, N99, N120, N121, N122, N179, N200, N255, N300, N400, N880, N900, N999, N1019, N50000000, N100000000, N1000000000, N2147483647, N2147483648, e, e2, t0, t6, h1, h6, w37, ht, f_X7_told, t3, hD, goodR]
