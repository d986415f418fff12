/-! PURE: begin -/
theorem begin_1 {τ : Wd} {x : Int} (h : τ.1 102 21 = I x) (hx : x = 0) : f_X7_begin τ = some (I (-1), refW τ (I 1)) := by
  unfold f_X7_begin refW
  simp (disch := omega) only [gd_t, bd_s, nm_W, nm_I, I_add, I_sub, I_mul, I_neg, I_le_t, I_le_f, I_lt_t, I_lt_f, I_eq_t, I_eq_f, I_inb', I_ix', Int.toNat_natCast, decide_true, decide_false, Bool.not_false, Bool.not_true, if_true, if_false, wi_eq, wi_eq', wi_ne, wi_row, wi_2, N0, N1, N2, N3, N4, N5, N6, N7, N8, N9, N10, N11, N12, N13, N14, N15, N16, N17, N18, N19, N20, N21, N22, N23, N24, N25, N26, N27, N28, N29, N30, N31, N32, N33, N34, N35, N36, N37, N38, N39, N40, N41, N42, N43, N45, N48, N57, N59, N88, N89, N97, N99, N120, N121, N122, N179, N200, N255, N300, N400, N880, N900, N999, N1019, N50000000, N100000000, N1000000000, N2147483647, N2147483648, h, refR]
theorem begin_5 {τ : Wd} {x y : Int} (h : τ.1 102 21 = I x) (hx : x = 1) (h36 : τ.1 112 36 = I y) (hy : y = 1) : f_X7_begin τ = some (I (-1), refW τ (I 5)) := by
  have w36 : Int.toNat 36 = 36 := rfl
  unfold f_X7_begin refW
  simp (disch := omega) only [gd_t, bd_s, nm_W, nm_I, I_add, I_sub, I_mul, I_neg, I_le_t, I_le_f, I_lt_t, I_lt_f, I_eq_t, I_eq_f, I_inb', I_ix', Int.toNat_natCast, decide_true, decide_false, Bool.not_false, Bool.not_true, if_true, if_false, wi_eq, wi_eq', wi_ne, wi_row, wi_2, N0, N1, N2, N3, N4, N5, N6, N7, N8, N9, N10, N11, N12, N13, N14, N15, N16, N17, N18, N19, N20, N21, N22, N23, N24, N25, N26, N27, N28, N29, N30, N31, N32, N33, N34, N35, N36, N37, N38, N39, N40, N41, N42, N43, N45, N48, N57, N59, N88, N89, N97, N99, N120, N121, N122, N179, N200, N255, N300, N400, N880, N900, N999, N1019, N50000000, N100000000, N1000000000, N2147483647, N2147483648, h, w36, h36, refR]
theorem begin_0 {τ τ2 : Wd} {x y W : Int} {c : Int32} (h : τ.1 102 21 = I x) (hx : x = 1) (h36 : τ.1 112 36 = I y) (hy : y = 0) (h35 : τ.1 112 35 = I W) (e : f_X7_beginsRound (wi (wi (wi τ 102 0 (I 0)) 112 36 (I 1)) 112 38 (I W)) = some (c, τ2)) : f_X7_begin τ = some (c, wi (wi τ2 102 1 (I 0)) 102 2 (I (-1))) := by
  have w35 : Int.toNat 35 = 35 := rfl
  have w36 : Int.toNat 36 = 36 := rfl
  have w38 : Int.toNat 38 = 38 := rfl
  unfold f_X7_begin
  simp (disch := omega) only [gd_t, bd_s, nm_W, nm_I, I_add, I_sub, I_mul, I_neg, I_le_t, I_le_f, I_lt_t, I_lt_f, I_eq_t, I_eq_f, I_inb', I_ix', Int.toNat_natCast, decide_true, decide_false, Bool.not_false, Bool.not_true, if_true, if_false, wi_eq, wi_eq', wi_ne, wi_row, wi_2, N0, N1, N2, N3, N4, N5, N6, N7, N8, N9, N10, N11, N12, N13, N14, N15, N16, N17, N18, N19, N20, N21, N22, N23, N24, N25, N26, N27, N28, N29, N30, N31, N32, N33, N34, N35, N36, N37, N38, N39, N40, N41, N42, N43, N45, N48, N57, N59, N88, N89, N97, N99, N120, N121, N122, N179, N200, N255, N300, N400, N880, N900, N999, N1019, N50000000, N100000000, N1000000000, N2147483647, N2147483648, h, w36, h36, w35, h35, w38, e, goodR]
theorem c_begin {σ : Wd} {b : Bool} (h : σ.1 63 0 = I (bn b)) : f_X6_begin σ = f_X6_begin_18 (I 1) (I 1) (I (bn (!b))) σ := by
  cases b with
  | false =>
    have h : σ.1 63 0 = (0 : Int32) := h
    unfold f_X6_begin
    rw [if_pos h]
    rfl
  | true =>
    have h : ¬ σ.1 63 0 = (0 : Int32) := by rw [h]; decide
    unfold f_X6_begin
    rw [if_neg h]
    rfl
set_option maxHeartbeats 1000000 in
theorem m_begin : MT f_X6_begin f_X7_begin := by
  intro σ τ B ⟨m, V, E, pres, kp, d, p, L, W, dl, pl, et, b, t, s, rd, h, n, g, hG⟩ hB
  obtain ⟨bm, m10, m63⟩ := bMm hG.1
  have m24 : m = 11 ∨ m = 24 := by have := hG.1; omega
  have hQ := hG.2.2.1.1
  have g21 := hG.2.2.2.1.2.1
  obtain ⟨x, σ', τ', k1, k2, k3⟩ := act_ok (B' := B + 200) (a := 1) (nn := 1) (ss := bn (!b)) (low := I (-1)) (K := fun σ2 => gd (isb (1 : Int32)) (nmW (wi σ2 63 0 (1 : Int32)) fun σ3 => gd (bM (σ3.2.2 0 4)) (nmW (wi σ3 63 2 (σ3.1 (σ3.2.2 0 4) 0)) fun σ5 => gd (bM (σ5.2.2 0 4)) (bd (f_X4_startRound 63 (σ5.2.2 0 4) σ5) fun r7 σ8 => some (r7, σ8))))) (fr := f_X7_begin)
    hG (by omega) (by omega) (by omega) (bn_bnd _)
    (fun hc => by
      rcases tc_cases (pres := pres) (a := 1) (n := 1) (s := bn (!b)) with ⟨q1, q2⟩ | ⟨-, q2, -⟩ | ⟨-, -, q2, -⟩ | ⟨q1, -, -, q2, q3⟩ | ⟨-, -, -, -, q2⟩
      · rw [q2]; exact begin_1 g21 (by rw [q1]; rfl)
      · omega
      · omega
      · rw [q3]; exact begin_5 g21 (by rw [q1]; rfl) hQ.2.2.1.1.2 (by cases b with
          | true => rfl
          | false => cases q2)
      · exact absurd q2 hc)
    (fun hp _ _ hs => by
      have bf : b = false := by
        cases e : b with
        | true => rw [e] at hs; cases hs
        | false => rfl
      subst bf
      obtain ⟨hM, hE, hR, ⟨np, n1, n2, n3, n4⟩, hP, hL, hn, ⟨r6, rd0, rd1⟩, hb, hz⟩ := hQ
      have rdz := hb rfl
      have h0 := (hz rdz).1
      have h36 := hR.1.2
      obtain ⟨W1, W2, W3, W4⟩ := hM.2.2.2.2.2.1
      obtain ⟨y1, y1', t0, t1⟩ := hR.2.1
      obtain ⟨σ2, hσ2⟩ : ∃ x, x = wi (wi (wi σ 0 12 (I 0)) 63 0 (I 1)) 63 2 (I W) := ⟨_, rfl⟩
      obtain ⟨τ2, hτ2⟩ : ∃ x, x = wi (wi (wi τ 102 0 (I 0)) 112 36 (I 1)) 112 38 (I W) := ⟨_, rfl⟩
      have fc : ∀ k, k ≠ 0 → k ≠ 63 → σ2.1 k = σ.1 k := fun k g1 g2 => by rw [hσ2, wi_row g2, wi_row g2, wi_row g1]
      have f63 : ∀ i, i ≠ 0 → i ≠ 2 → σ2.1 63 i = σ.1 63 i := fun i g1 g2 => by rw [hσ2, wi_ne g2, wi_ne g1, wi_row (by decide)]
      have fk : ∀ k, k ≠ 102 → k ≠ 112 → τ2.1 k = τ.1 k := fun k g1 g2 => by rw [hτ2, wi_row g2, wi_row g2, wi_row g1]
      have f2 : ∀ i, i ≠ 0 → τ2.1 102 i = τ.1 102 i := fun i g1 => by rw [hτ2, wi_row (by decide), wi_row (by decide), wi_ne g1]
      have fx : ∀ i, i ≠ 36 → i ≠ 38 → τ2.1 112 i = τ.1 112 i := fun i g1 g2 => by rw [hτ2, wi_ne g2, wi_ne g1, wi_row (by decide)]
      have M2 : QM m σ2 τ2 V d p L W dl pl := QM_rows hM (fun k g1 g2 => fc k (by omega) (by omega)) (fun i g1 g2 => f2 i (by omega)) (fk 103 (by decide) (by decide)) (fk 104 (by decide) (by decide)) (fun i hi => fx i (by omega) (by omega))
      have R2 : QR 63 σ2 τ2 true t W := by
        obtain ⟨-, -, -, z3, z4, z5, z6⟩ := hR
        refine ⟨⟨by rw [hσ2, wi_ne (by decide), wi_eq]; rfl, by rw [hτ2, wi_ne (by decide), wi_eq]; rfl⟩, ⟨by rw [f63 1 (by decide) (by decide)]; exact y1, by rw [fx 37 (by decide) (by decide)]; exact y1', t0, t1⟩, ⟨by rw [hσ2, wi_eq], by rw [hτ2, wi_eq], W3, W4⟩, ?_, ?_, ?_, ?_⟩
        · rw [f63 3 (by decide) (by decide), fx 39 (by decide) (by decide)]; exact z3
        · rw [f63 4 (by decide) (by decide), fx 40 (by decide) (by decide)]; exact z4
        · rw [f63 5 (by decide) (by decide), fx 41 (by decide) (by decide)]; exact z5
        · rw [f63 6 (by decide) (by decide), fx 42 (by decide) (by decide)]; exact z6
      have P2 : QPs 63 σ2 τ2 V t h n g := fun w hw => QP_congr (hP w hw) (fun k g1 g2 => by rw [fc k (by omega) (by omega)]) (fun i g1 g2 => fx i (by omega) (by omega)) (fk 103 (by decide) (by decide))
      have L2 : LR (63 + 9) σ2 τ2 V d := LR_congr hL rfl rfl (fun k g1 g2 => fc k (by omega) (by omega)) (fun i hi => fx i (by omega) (by omega))
      have z0 : pu n V 0 = 0 := by
        have e : ∀ (r v : Nat), v + r ≤ V → pu n r v = 0 := by
          intro r
          induction r with
          | zero => intro v _; rfl
          | succ r ih =>
            intro v hv
            have q := (hP v (by omega)).2.2.2.2.2.2.2.2
            have := h0 v (by omega)
            unfold pu
            rw [ih (v + 1) (by omega)]
            omega
        exact e V 0 (by omega)
      obtain ⟨σ3, τ3, h3, n3', g3, c, rd', q1, q2, q3, q4, q5, q6, q7, q8, q9, ⟨⟨v1, v2, v3⟩, ⟨v4, v5, v6⟩⟩⟩ := round_ok (rd := rd) m10 (by omega) M2 R2 L2 P2 (by omega) (by rw [f63 6 (by decide) (by decide)]; exact r6) rd0 (by omega) (fun _ => rfl)
      obtain ⟨τ', hτ'⟩ : ∃ x, x = wi (wi τ3 102 1 (I 0)) 102 2 (I (-1)) := ⟨_, rfl⟩
      have ec : ∀ k, k ≠ 0 → k < 4 ∨ 9 < k → k < 63 ∨ 71 < k → σ3.1 k = σ.1 k := fun k g1 g2 g3 => by rw [v1 k g2 (by omega), fc k g1 (by omega)]
      have ek : ∀ k, k ≠ 102 → k ≠ 112 → k ≠ 116 → k ≠ 117 → τ'.1 k = τ.1 k := fun k g1 g2 g3 g4 => by rw [hτ', wi_row g1, wi_row g1, v4 k g1 g2 g3 g4, fk k g1 g2]
      have e2 : ∀ i, 3 ≤ i → i ≠ 37 → i ≠ 38 → τ'.1 102 i = τ.1 102 i := fun i g1 g2 g3 => by rw [hτ', wi_ne (by omega), wi_ne (by omega), v5 i g2 g3, f2 i (by omega)]
      have QA0 : QQ m 63 σ3 τ3 V E d p L W dl pl et true t W rd' h3 n3' g3 := by
        refine ⟨q3, QE_congr hE (by rw [ec m (by omega) (by omega) (by omega)]) (ec _ (by omega) (by omega) (by omega)) (ec _ (by omega) (by omega) (by omega)) (ec _ (by omega) (by omega) (by omega)) (by rw [v5 15 (by decide) (by decide), f2 15 (by decide)]) (by rw [v4 105 (by decide) (by decide) (by decide) (by decide), fk 105 (by decide) (by decide)]), q4, ⟨np, by rw [v2 7 (by decide), f63 7 (by decide) (by decide)]; exact n1, n2, n3, n4⟩, q6, q5, ⟨fun w hw => ?_, q7⟩, ⟨q8, by omega, by omega⟩, fun q => (by cases q), fun q => ?_⟩
        · have := (q6 w hw).2.2.2.2.2.2.2.2
          omega
        · rcases q9 with ⟨x1, x2⟩ | x1
          · exact ⟨by rw [x2]; exact h0, fun _ => rfl⟩
          · omega
      have QA : QQ m 63 σ3 τ' V E d p L W dl pl et true t W rd' h3 n3' g3 := QQ_congr QA0 (by omega) (fun _ _ _ => rfl) (fun _ _ _ => rfl) (fun i g1 g2 => by rw [hτ', wi_ne (by omega), wi_ne (by omega)]) (by rw [hτ', wi_row (by decide), wi_row (by decide)]) (by rw [hτ', wi_row (by decide), wi_row (by decide)]) (by rw [hτ', wi_row (by decide), wi_row (by decide)]) (by rw [hτ', wi_row (by decide), wi_row (by decide)])
      have h2 : σ3.2 = σ.2 := by rw [v3, hσ2, wi_2, wi_2, wi_2]
      have tB := hG.2.2.1.2
      refine ⟨I c, σ3, τ', ?_, ?_, ⟨m, V, E, pres, kp, d, p, L, W, dl, pl, et, true, t, W, rd', h3, n3', g3, GA_act hG hp (by omega) QA (by omega) (fun k hk => ec k (by omega) (by omega) (by omega)) (fun i hi => by rw [v1 0 (by omega) (by omega), hσ2, wi_row (by decide), wi_row (by decide), wi_ne hi]) h2 (fun k g1 g2 g3 => ek k (by omega) g3 (by omega) (by omega)) (fun i g1 g2 => e2 i g1 (by omega) (by omega)) (by rw [v1 0 (by omega) (by omega), hσ2, wi_row (by decide), wi_row (by decide), wi_eq]) (by rw [hτ', wi_ne (by decide), wi_eq]) (by rw [hτ', wi_eq])⟩, ⟨fun k hk => by rw [ec k (by omega) (by omega) (by omega), wi_row (by omega)], by rw [h2, wi_2]⟩, ⟨fun k hk => ek k (by omega) (by omega) (by omega) (by omega), by rw [hτ', wi_2, wi_2, v6, hτ2, wi_2, wi_2, wi_2]⟩⟩
      · have hm : σ2.2.2 0 4 = m := by rw [hσ2]; exact hG.2.1
        have hm1 : (wi (wi σ 0 12 (I 0)) 63 0 (I 1)).2.2 0 4 = m := hG.2.1
        have w0 : (wi (wi σ 0 12 (I 0)) 63 0 (I 1)).1 m 0 = I W := by rw [wi_row (by omega), wi_row (by omega)]; exact W1
        show gd (isb (I 1)) (nmW (wi (wi σ 0 12 (I 0)) 63 0 (I 1)) fun σ3 => gd (bM (σ3.2.2 0 4)) (nmW (wi σ3 63 2 (σ3.1 (σ3.2.2 0 4) 0)) fun σ5 => gd (bM (σ5.2.2 0 4)) (bd (f_X4_startRound 63 (σ5.2.2 0 4) σ5) fun r7 σ8 => some (r7, σ8)))) = _
        rw [isb_1, gd_t, nm_W, hm1, bm, gd_t, w0, nm_W, ← hσ2, hm, bm, gd_t, q1, bd_s]
      · rw [hτ']
        exact begin_0 g21 (by rw [hp]; rfl) h36 rfl W2 (by rw [← hτ2]; exact q2))
  refine ⟨x, σ', τ', ?_, k2, k3⟩
  rw [c_begin hQ.2.2.1.1.1]
  exact k1
