/-! PURE: adopt -/
theorem c_ad {m V : Nat} (m10 : 10 < m) (hV : V ≤ 5) (bm : bM m = true) : ∀ (r i n : Nat) (z : Int) (σ : Wd), z = (i : Int) → i + r = V → r < n → σ.2.2 0 4 = m → σ.1 m 3 = I (V : Int) → (∀ j, j < i → σ.1 (m + 7) j = σ.1 5 j) →
    ∃ σ', f_X6_adopt_52 n (I z) σ = some (σ.1 4 0, σ') ∧ (∀ j, j < V → σ'.1 (m + 7) j = σ.1 5 j) ∧ (∀ k, k ≠ m + 7 → σ'.1 k = σ.1 k) ∧ σ'.2 = σ.2
  | 0, i, n + 1, z, σ, hz, hi, _, hm, h3, h => by
    refine ⟨σ, ?_, fun j hj => h j (by omega), fun _ _ => rfl, rfl⟩
    rw [f_X6_adopt_52]
    clear h
    simp (disch := omega) only [gd_t, bd_s, nm_W, nm_I, I_add, I_sub, I_mul, I_neg, I_le_t, I_le_f, I_lt_t, I_lt_f, I_eq_t, I_eq_f, I_inb', I_ix', Int.toNat_natCast, decide_true, decide_false, Bool.not_false, Bool.not_true, if_true, if_false, wi_eq, wi_eq', wi_ne, wi_row, wi_2, N0, N1, N2, N3, N4, N5, N6, N7, N8, N9, N10, N11, N12, N13, N14, N15, N16, N17, N18, N19, N20, N21, N22, N23, N24, N25, N26, N27, N28, N29, N30, N31, N32, N33, N34, N35, N36, N37, N38, N39, N40, N41, N42, N43, N45, N48, N57, N59, N88, N89, N97, N99, N120, N121, N122, N179, N200, N255, N300, N400, N880, N900, N999, N1019, N50000000, N100000000, N1000000000, N2147483647, N2147483648, hm, bm, h3]
  | r + 1, i, n + 1, z, σ, hz, hi, hn, hm, h3, h => by
    have tz : z.toNat = i := by omega
    obtain ⟨σ', q1, q2, q3, q4⟩ := c_ad m10 hV bm r (i + 1) n (z + 1) (wi σ (m + 7) i (σ.1 5 i)) (by omega) (by omega) (by omega) hm (by rw [wi_row (by omega)]; exact h3) (fun j hj => by
      rw [wi_row (show 5 ≠ m + 7 by omega)]
      by_cases c : j = i
      · rw [c, wi_eq]
      · rw [wi_ne c]; exact h j (by omega))
    refine ⟨σ', ?_, fun j hj => by rw [q2 j hj, wi_row (by omega)], fun k hk => by rw [q3 k hk, wi_row hk], by rw [q4, wi_2]⟩
    rw [wi_row (show 4 ≠ m + 7 by omega)] at q1
    rw [← q1, f_X6_adopt_52]
    clear h q2
    simp (disch := omega) only [gd_t, bd_s, nm_W, nm_I, I_add, I_sub, I_mul, I_neg, I_le_t, I_le_f, I_lt_t, I_lt_f, I_eq_t, I_eq_f, I_inb', I_ix', Int.toNat_natCast, decide_true, decide_false, Bool.not_false, Bool.not_true, if_true, if_false, wi_eq, wi_eq', wi_ne, wi_row, wi_2, N0, N1, N2, N3, N4, N5, N6, N7, N8, N9, N10, N11, N12, N13, N14, N15, N16, N17, N18, N19, N20, N21, N22, N23, N24, N25, N26, N27, N28, N29, N30, N31, N32, N33, N34, N35, N36, N37, N38, N39, N40, N41, N42, N43, N45, N48, N57, N59, N88, N89, N97, N99, N120, N121, N122, N179, N200, N255, N300, N400, N880, N900, N999, N1019, N50000000, N100000000, N1000000000, N2147483647, N2147483648, hm, bm, h3, tz]
theorem r_ad {V : Nat} (hV : V ≤ 5) : ∀ (r i n : Nat) (z : Int) (τ : Wd), z = (i : Int) → i + r = V → r < n → τ.1 102 14 = I (V : Int) → (∀ j, j < i → τ.1 112 (43 + j) = τ.1 117 j) →
    ∃ τ', f_X7_adopt_64 n (I z) τ = some (τ.1 102 37, wi (wi τ' 102 1 (I 0)) 102 2 (I (-1))) ∧ (∀ j, j < V → τ'.1 112 (43 + j) = τ.1 117 j) ∧ (∀ i, i < 43 ∨ 48 ≤ i → τ'.1 112 i = τ.1 112 i) ∧ (∀ k, k ≠ 112 → τ'.1 k = τ.1 k) ∧ τ'.2 = τ.2
  | 0, i, n + 1, z, τ, hz, hi, _, h3, h => by
    refine ⟨τ, ?_, fun j hj => h j (by omega), fun _ _ => rfl, fun _ _ => rfl, rfl⟩
    rw [f_X7_adopt_64]
    clear h
    simp (disch := omega) only [gd_t, bd_s, nm_W, nm_I, I_add, I_sub, I_mul, I_neg, I_le_t, I_le_f, I_lt_t, I_lt_f, I_eq_t, I_eq_f, I_inb', I_ix', Int.toNat_natCast, decide_true, decide_false, Bool.not_false, Bool.not_true, if_true, if_false, wi_eq, wi_eq', wi_ne, wi_row, wi_2, N0, N1, N2, N3, N4, N5, N6, N7, N8, N9, N10, N11, N12, N13, N14, N15, N16, N17, N18, N19, N20, N21, N22, N23, N24, N25, N26, N27, N28, N29, N30, N31, N32, N33, N34, N35, N36, N37, N38, N39, N40, N41, N42, N43, N45, N48, N57, N59, N88, N89, N97, N99, N120, N121, N122, N179, N200, N255, N300, N400, N880, N900, N999, N1019, N50000000, N100000000, N1000000000, N2147483647, N2147483648, h3, goodR]
  | r + 1, i, n + 1, z, τ, hz, hi, hn, h3, h => by
    have tz : z.toNat = i := by omega
    have t1 : ((43 : Int) + z).toNat = 43 + i := by omega
    obtain ⟨τ', q1, q2, q3, q4, q5⟩ := r_ad hV r (i + 1) n (z + 1) (wi τ 112 (43 + i) (τ.1 117 i)) (by omega) (by omega) (by omega) (by rw [wi_row (by decide)]; exact h3) (fun j hj => by
      rw [wi_row (show 117 ≠ 112 by decide)]
      by_cases c : j = i
      · rw [c, wi_eq]
      · rw [wi_ne (by omega)]; exact h j (by omega))
    refine ⟨τ', ?_, fun j hj => by rw [q2 j hj, wi_row (by decide)], fun i hi => by rw [q3 i hi, wi_ne (by omega)], fun k hk => by rw [q4 k hk, wi_row hk], by rw [q5, wi_2]⟩
    rw [wi_row (show 102 ≠ 112 by decide)] at q1
    rw [← q1, f_X7_adopt_64]
    clear h q2
    simp (disch := omega) only [gd_t, bd_s, nm_W, nm_I, I_add, I_sub, I_mul, I_neg, I_le_t, I_le_f, I_lt_t, I_lt_f, I_eq_t, I_eq_f, I_inb', I_ix', Int.toNat_natCast, decide_true, decide_false, Bool.not_false, Bool.not_true, if_true, if_false, wi_eq, wi_eq', wi_ne, wi_row, wi_2, N0, N1, N2, N3, N4, N5, N6, N7, N8, N9, N10, N11, N12, N13, N14, N15, N16, N17, N18, N19, N20, N21, N22, N23, N24, N25, N26, N27, N28, N29, N30, N31, N32, N33, N34, N35, N36, N37, N38, N39, N40, N41, N42, N43, N45, N48, N57, N59, N88, N89, N97, N99, N120, N121, N122, N179, N200, N255, N300, N400, N880, N900, N999, N1019, N50000000, N100000000, N1000000000, N2147483647, N2147483648, h3, tz, t1]
theorem adopt_r {τ : Wd} {x q a y W : Int} (h : τ.1 102 21 = I x) (hx : 0 ≤ x ∧ x ≤ 1) (h35 : τ.1 112 35 = I W) (e : f_X7_in (I q) (I 1) (I W) (wi τ 102 0 (I 0)) = some (I a, wi τ 102 0 (I 0))) (ha : 0 ≤ a ∧ a ≤ 1) (h36 : τ.1 112 36 = I y) (hy : 0 ≤ y ∧ y ≤ 1) :
    f_X7_adopt (I q) τ = if x = 0 then some (I (-1), refW τ (I 1)) else if a = 0 then some (I (-1), refW τ (I 2)) else if y = 1 then some (I (-1), refW τ (I 5)) else bd (f_X7_laysBest (I q) (I (-1)) (wi τ 102 0 (I 0))) fun _ s => f_X7_adopt_64 FU (I 0) s := by
  have w35 : Int.toNat 35 = 35 := rfl
  have w36 : Int.toNat 36 = 36 := rfl
  by_cases c1 : x = 0
  · rw [if_pos c1]
    unfold f_X7_adopt refW
    simp (disch := omega) only [gd_t, bd_s, nm_W, nm_I, I_add, I_sub, I_mul, I_neg, I_le_t, I_le_f, I_lt_t, I_lt_f, I_eq_t, I_eq_f, I_inb', I_ix', Int.toNat_natCast, decide_true, decide_false, Bool.not_false, Bool.not_true, if_true, if_false, wi_eq, wi_eq', wi_ne, wi_row, wi_2, N0, N1, N2, N3, N4, N5, N6, N7, N8, N9, N10, N11, N12, N13, N14, N15, N16, N17, N18, N19, N20, N21, N22, N23, N24, N25, N26, N27, N28, N29, N30, N31, N32, N33, N34, N35, N36, N37, N38, N39, N40, N41, N42, N43, N45, N48, N57, N59, N88, N89, N97, N99, N120, N121, N122, N179, N200, N255, N300, N400, N880, N900, N999, N1019, N50000000, N100000000, N1000000000, N2147483647, N2147483648, h, refR]
  · rw [if_neg c1]
    by_cases c2 : a = 0
    · rw [if_pos c2]
      unfold f_X7_adopt refW
      simp (disch := omega) only [gd_t, bd_s, nm_W, nm_I, I_add, I_sub, I_mul, I_neg, I_le_t, I_le_f, I_lt_t, I_lt_f, I_eq_t, I_eq_f, I_inb', I_ix', Int.toNat_natCast, decide_true, decide_false, Bool.not_false, Bool.not_true, if_true, if_false, wi_eq, wi_eq', wi_ne, wi_row, wi_2, N0, N1, N2, N3, N4, N5, N6, N7, N8, N9, N10, N11, N12, N13, N14, N15, N16, N17, N18, N19, N20, N21, N22, N23, N24, N25, N26, N27, N28, N29, N30, N31, N32, N33, N34, N35, N36, N37, N38, N39, N40, N41, N42, N43, N45, N48, N57, N59, N88, N89, N97, N99, N120, N121, N122, N179, N200, N255, N300, N400, N880, N900, N999, N1019, N50000000, N100000000, N1000000000, N2147483647, N2147483648, h, w35, h35, e, refR]
    · rw [if_neg c2]
      by_cases c3 : y = 1
      · rw [if_pos c3]
        unfold f_X7_adopt refW
        simp (disch := omega) only [gd_t, bd_s, nm_W, nm_I, I_add, I_sub, I_mul, I_neg, I_le_t, I_le_f, I_lt_t, I_lt_f, I_eq_t, I_eq_f, I_inb', I_ix', Int.toNat_natCast, decide_true, decide_false, Bool.not_false, Bool.not_true, if_true, if_false, wi_eq, wi_eq', wi_ne, wi_row, wi_2, N0, N1, N2, N3, N4, N5, N6, N7, N8, N9, N10, N11, N12, N13, N14, N15, N16, N17, N18, N19, N20, N21, N22, N23, N24, N25, N26, N27, N28, N29, N30, N31, N32, N33, N34, N35, N36, N37, N38, N39, N40, N41, N42, N43, N45, N48, N57, N59, N88, N89, N97, N99, N120, N121, N122, N179, N200, N255, N300, N400, N880, N900, N999, N1019, N50000000, N100000000, N1000000000, N2147483647, N2147483648, h, w35, h35, e, w36, h36, refR]
      · rw [if_neg c3]
        unfold f_X7_adopt
        simp (disch := omega) only [gd_t, bd_s, nm_W, nm_I, I_add, I_sub, I_mul, I_neg, I_le_t, I_le_f, I_lt_t, I_lt_f, I_eq_t, I_eq_f, I_inb', I_ix', Int.toNat_natCast, decide_true, decide_false, Bool.not_false, Bool.not_true, if_true, if_false, wi_eq, wi_eq', wi_ne, wi_row, wi_2, N0, N1, N2, N3, N4, N5, N6, N7, N8, N9, N10, N11, N12, N13, N14, N15, N16, N17, N18, N19, N20, N21, N22, N23, N24, N25, N26, N27, N28, N29, N30, N31, N32, N33, N34, N35, N36, N37, N38, N39, N40, N41, N42, N43, N45, N48, N57, N59, N88, N89, N97, N99, N120, N121, N122, N179, N200, N255, N300, N400, N880, N900, N999, N1019, N50000000, N100000000, N1000000000, N2147483647, N2147483648, h, w35, h35, e, w36, h36]
theorem c_adopt {σ : Wd} {m : Nat} {q a W : Int} {b : Bool} (hm : σ.2.2 0 4 = m) (bm : bM m = true) (h0 : σ.1 m 0 = I W) (e : f_X6_within (I q) (I 1) (I W) σ = some (I a, σ)) (h : σ.1 63 0 = I (bn b)) : f_X6_adopt (I q) σ = f_X6_adopt_29 (I q) (I 1) (I a) (I (bn (!b))) σ := by
  unfold f_X6_adopt
  rw [hm, bm, gd_t, h0, show (1 : Int32) = I 1 from rfl, e, bd_s]
  cases b with
  | false =>
    have h : σ.1 63 0 = (0 : Int32) := h
    rw [if_pos h]
    rfl
  | true =>
    have h : ¬ σ.1 63 0 = (0 : Int32) := by rw [h]; decide
    rw [if_neg h]
    rfl
set_option maxHeartbeats 1000000 in
theorem m_adopt (x : Int32) : MT (f_X6_adopt x) (f_X7_adopt x) := by
  intro σ τ B ⟨m, V, E, pres, kp, d, p, L, W, dl, pl, et, b, t, s, rd, h, n, g, hG⟩ hB
  obtain ⟨q, rfl, hq⟩ := argI x
  obtain ⟨bm, m10, m63⟩ := bMm hG.1
  have m24 : m = 11 ∨ m = 24 := by have := hG.1; omega
  have hQ := hG.2.2.1.1
  have hM0 := hQ.1
  have h5 := hM0.1.1
  have hW := hM0.2.2.2.2.2.1
  have c1 := cWithin (σ := σ) (lo := 1) (hi := W) hq (by unfold R; omega) (by unfold R; omega)
  have c2 := rIn (σ := wi τ 102 0 (I 0)) (lo := 1) (hi := W) hq (by unfold R; omega) (by unfold R; omega)
  have er := adopt_r (q := q) hG.2.2.2.1.2.1 (bn_bnd pres) hW.2.1 c2 (bn_bnd _) hQ.2.2.1.1.2 (bn_bnd b)
  obtain ⟨x, σ', τ', k1, k2, k3⟩ := act_ok (B' := B + 200) (a := 1) (nn := bn (decide (1 ≤ q ∧ q ≤ W))) (ss := bn (!b)) (low := I (-1)) (K := fun σ2 => gd (bM (σ2.2.2 0 4)) (bd (f_X1_choose (σ2.2.2 0 4) (I q) (I (-1)) σ2) fun _ σ4 => (f_X6_adopt_52 FU (I 0) σ4))) (fr := f_X7_adopt (I q))
    hG (by omega) (by omega) (bn_bnd _) (bn_bnd _)
    (fun hc => by
      rw [er]
      rcases tc_cases (pres := pres) (a := 1) (n := bn (decide (1 ≤ q ∧ q ≤ W))) (s := bn (!b)) with ⟨q1, q2⟩ | ⟨-, q2, -⟩ | ⟨q1, -, q2, q3⟩ | ⟨q1, -, q2, q3, q4⟩ | ⟨-, -, -, -, q2⟩
      · rw [q2, if_pos (by rw [q1]; rfl)]; rfl
      · omega
      · rw [q3, if_neg (by rw [q1]; decide), if_pos q2]; rfl
      · rw [q4, if_neg (by rw [q1]; decide), if_neg q2, if_pos (by cases b with
          | true => rfl
          | false => cases q3)]; rfl
      · exact absurd q2 hc)
    (fun hp _ hn hs => by
      have y := bn_1 hn
      have bf : b = false := by
        cases e : b with
        | true => rw [e] at hs; cases hs
        | false => rfl
      subst bf
      rw [if_neg (by rw [hp]; decide), if_neg (by omega), if_neg (by decide)] at er
      have hm : (wi σ 0 12 (I 0)).2.2 0 4 = m := hG.2.1
      have M2 := QM_wi m10 hM0 (I 0)
      obtain ⟨N, hN, N1⟩ := nat_of (show 0 ≤ q by omega) (by omega)
      obtain ⟨σ1, a1, a2, a3, a4, a5, a6⟩ := cChoose (q := N) (but := -1) m10 M2.1 (QM_p M2) (by unfold R; omega) N1 M2.2.1 M2.2.2.2.1.1
      obtain ⟨τ1, b1, b2, b3, b4, b5, b6, b7⟩ := rBest (q := N) (but := -1) M2.1 (QM_p M2) (by unfold R; omega) N1 M2.2.2.1 M2.2.2.2.1.2.1
      rw [← hN] at a1 b1
      have ub := bu_le (f := lcs d p (-1) V V) N
      have un : lcs d p (-1) V V (bu (lcs d p (-1) V V) N) ≠ none := bu_some (by rw [lcs_0]; exact fun h => by cases h) N
      have ss := shs_sum (p := p) (but := -1) M2.1 V _ (Nat.le_refl _) un
      rw [Nat.sub_self] at ss
      obtain ⟨U, hU⟩ : ∃ U, U = bu (lcs d p (-1) V V) N := ⟨_, rfl⟩
      rw [← hU] at a2 b2 a4 b4 ub ss
      have sb : ∀ w, w < V → 0 ≤ ((shs d p (-1) V V U w : Nat) : Int) ∧ ((shs d p (-1) V V U w : Nat) : Int) ≤ 120 := fun w hw => by
        have := (pu_ge (f := fun v => (shs d p (-1) V V U v : Int)) (w := w) V 0 (fun _ _ _ => by show (0 : Int) ≤ ((_ : Nat) : Int); omega) (by omega) (by omega)).1
        rw [ss] at this
        have this : ((shs d p (-1) V V U w : Nat) : Int) ≤ _ := this
        exact ⟨by omega, by omega⟩
      obtain ⟨σ2, d1, d2, d3, d4⟩ := c_ad m10 h5 bm V 0 FU 0 σ1 rfl (by omega) (by show _ < 6000; omega) (by rw [a6]; exact hm) (by rw [a5 m (by omega)]; exact M2.2.1.1) (fun j hj => absurd hj (by omega))
      obtain ⟨τ2, e1, e2, e3, e4, e5⟩ := r_ad h5 V 0 FU 0 τ1 rfl (by omega) (by show _ < 6000; omega) (by rw [b6 14 (by decide) (by decide)]; exact M2.2.2.1.1) (fun j hj => absurd hj (by omega))
      rw [a2] at d1
      rw [b2] at e1
      obtain ⟨hM, hE, hR, hNe, hP, hL, hnp, hrd, hb, hz⟩ := hQ
      obtain ⟨τ', hτ'⟩ : ∃ x, x = wi (wi τ2 102 1 (I 0)) 102 2 (I (-1)) := ⟨_, rfl⟩
      have fc : ∀ k, k ≠ 0 → k < 4 ∨ 9 < k → k ≠ m + 7 → σ2.1 k = σ.1 k := fun k g1 g2 g3 => by rw [d3 k g3, a5 k (by omega), wi_row g1]
      have f0 : ∀ i, i ≠ 12 → σ2.1 0 i = σ.1 0 i := fun i g1 => by rw [d3 0 (by omega), a5 0 (by omega), wi_ne g1]
      have fk : ∀ k, k ≠ 102 → k ≠ 112 → k ≠ 116 → k ≠ 117 → τ'.1 k = τ.1 k := fun k g1 g2 g3 g4 => by rw [hτ', wi_row g1, wi_row g1, e4 k g2, b5 k g1 (by omega) (by omega), wi_row g1]
      have f2 : ∀ i, 3 ≤ i → i < 37 ∨ 39 < i → τ'.1 102 i = τ.1 102 i := fun i g1 g2 => by rw [hτ', wi_ne (by omega), wi_ne (by omega), e4 102 (by decide), b6 i (by omega) (by omega), wi_ne (by omega)]
      have fx : ∀ i, i < 43 ∨ 48 ≤ i → τ'.1 112 i = τ.1 112 i := fun i g1 => by rw [hτ', wi_row (by decide), wi_row (by decide), e3 i g1, b5 112 (by decide) (by decide) (by decide), wi_row (by decide)]
      have QQ' : QQ m 63 σ2 τ' V E d p L W dl (fun w => ((shs d p (-1) V V U w : Nat) : Int)) et false t s rd h n g := by
        refine ⟨QM_pl hM (fun k g1 g2 g3 => fc k (by omega) (by omega) g3) (fun w hw => by rw [d2 w hw]; exact a4 w hw) (fun i g1 g2 => f2 i (by omega) (by omega)) (fk 103 (by decide) (by decide) (by decide) (by decide)) (fk 104 (by decide) (by decide) (by decide) (by decide)) (fun i hi => fx i (by omega)) (fun w hw => by rw [hτ', wi_row (by decide), wi_row (by decide), e2 w hw]; exact b4 w hw) sb, QE_congr hE (by rw [fc m (by omega) (by omega) (by omega)]) (fc _ (by omega) (by omega) (by omega)) (fc _ (by omega) (by omega) (by omega)) (fc _ (by omega) (by omega) (by omega)) (f2 15 (by decide) (by decide)) (fk 105 (by decide) (by decide) (by decide) (by decide)),
          QR_rows hR (fun i _ => by rw [fc 63 (by decide) (by decide) (by omega)]) (fun i _ _ => fx i (by omega)) (by rw [fc 63 (by decide) (by decide) (by omega), fx 42 (by omega)]; exact hR.2.2.2.2.2.2), ?_, fun w hw => QP_congr (hP w hw) (fun k g1 g2 => by rw [fc k (by omega) (by omega) (by omega)]) (fun i g1 g2 => fx i (by omega)) (fk 103 (by decide) (by decide) (by decide) (by decide)), LR_congr hL rfl rfl (fun k g1 g2 => fc k (by omega) (by omega) (by omega)) (fun i hi => fx i (by omega)), hnp, by rw [fc 63 (by decide) (by decide) (by omega)]; exact hrd, hb, hz⟩
        obtain ⟨np, n1, n2⟩ := hNe
        exact ⟨np, by rw [fc 63 (by decide) (by decide) (by omega)]; exact n1, n2⟩
      have tB := hG.2.2.1.2
      refine ⟨I (U : Int), σ2, τ', ?_, by rw [er, b1, bd_s, e1, hτ'], ⟨m, V, E, pres, kp, d, p, L, W, dl, _, et, false, t, s, rd, h, n, g, GA_act hG hp (by omega) QQ' (by omega) (fun k hk => fc k (by omega) (by omega) (by omega)) f0 (by rw [d4, a6, wi_2]) (fun k g1 g2 g3 => fk k (by omega) g3 (by omega) (by omega)) f2 (by rw [d3 0 (by omega), a5 0 (by omega), wi_eq]) (by rw [hτ', wi_ne (by decide), wi_eq]) (by rw [hτ', wi_eq])⟩, ⟨fun k hk => by rw [fc k (by omega) (by omega) (by omega), wi_row (by omega)], by rw [d4, a6]⟩, ⟨fun k hk => fk k (by omega) (by omega) (by omega) (by omega), by rw [hτ', wi_2, wi_2, e5, b7, wi_2]⟩⟩
      show gd (bM ((wi σ 0 12 (I 0)).2.2 0 4)) (bd (f_X1_choose ((wi σ 0 12 (I 0)).2.2 0 4) (I q) (I (-1)) (wi σ 0 12 (I 0))) fun _ σ4 => (f_X6_adopt_52 FU (I 0) σ4)) = _
      rw [hm, bm, gd_t, a1, bd_s, d1])
  refine ⟨x, σ', τ', ?_, k2, k3⟩
  rw [c_adopt hG.2.1 bm hW.1 c1 hQ.2.2.1.1.1]
  exact k1
