/-! PURE: ticks, whole -/
theorem ticks_r {τ : Wd} {x q a y : Int} (h : τ.1 102 21 = I x) (hx : 0 ≤ x ∧ x ≤ 1) (e : f_X7_in (I q) (I 1) (I 200) (wi τ 102 0 (I 0)) = some (I a, wi τ 102 0 (I 0))) (ha : 0 ≤ a ∧ a ≤ 1) (h36 : τ.1 112 36 = I y) (hy : 0 ≤ y ∧ y ≤ 1) :
    f_X7_ticks (I q) τ = if x = 0 then some (I (-1), refW τ (I 1)) else if a = 0 then some (I (-1), refW τ (I 2)) else if y = 0 then some (I (-1), refW τ (I 5)) else f_X7_ticks_55 FU (I q) (I 0) (I 0) (wi τ 102 0 (I 0)) := by
  have w36 : Int.toNat 36 = 36 := rfl
  by_cases c1 : x = 0
  · rw [if_pos c1]
    unfold f_X7_ticks refW
    simp (disch := omega) only [gd_t, bd_s, nm_W, nm_I, I_add, I_sub, I_mul, I_neg, I_le_t, I_le_f, I_lt_t, I_lt_f, I_eq_t, I_eq_f, I_inb', I_ix', Int.toNat_natCast, decide_true, decide_false, Bool.not_false, Bool.not_true, if_true, if_false, wi_eq, wi_eq', wi_ne, wi_row, wi_2, N0, N1, N2, N3, N4, N5, N6, N7, N8, N9, N10, N11, N12, N13, N14, N15, N16, N17, N18, N19, N20, N21, N22, N23, N24, N25, N26, N27, N28, N29, N30, N31, N32, N33, N34, N35, N36, N37, N38, N39, N40, N41, N42, N43, N45, N48, N57, N59, N88, N89, N97, N99, N120, N121, N122, N179, N200, N255, N300, N400, N880, N900, N999, N1019, N50000000, N100000000, N1000000000, N2147483647, N2147483648, h, refR]
  · rw [if_neg c1]
    by_cases c2 : a = 0
    · rw [if_pos c2]
      unfold f_X7_ticks refW
      simp (disch := omega) only [gd_t, bd_s, nm_W, nm_I, I_add, I_sub, I_mul, I_neg, I_le_t, I_le_f, I_lt_t, I_lt_f, I_eq_t, I_eq_f, I_inb', I_ix', Int.toNat_natCast, decide_true, decide_false, Bool.not_false, Bool.not_true, if_true, if_false, wi_eq, wi_eq', wi_ne, wi_row, wi_2, N0, N1, N2, N3, N4, N5, N6, N7, N8, N9, N10, N11, N12, N13, N14, N15, N16, N17, N18, N19, N20, N21, N22, N23, N24, N25, N26, N27, N28, N29, N30, N31, N32, N33, N34, N35, N36, N37, N38, N39, N40, N41, N42, N43, N45, N48, N57, N59, N88, N89, N97, N99, N120, N121, N122, N179, N200, N255, N300, N400, N880, N900, N999, N1019, N50000000, N100000000, N1000000000, N2147483647, N2147483648, h, e, refR]
    · rw [if_neg c2]
      by_cases c3 : y = 0
      · rw [if_pos c3]
        unfold f_X7_ticks refW
        simp (disch := omega) only [gd_t, bd_s, nm_W, nm_I, I_add, I_sub, I_mul, I_neg, I_le_t, I_le_f, I_lt_t, I_lt_f, I_eq_t, I_eq_f, I_inb', I_ix', Int.toNat_natCast, decide_true, decide_false, Bool.not_false, Bool.not_true, if_true, if_false, wi_eq, wi_eq', wi_ne, wi_row, wi_2, N0, N1, N2, N3, N4, N5, N6, N7, N8, N9, N10, N11, N12, N13, N14, N15, N16, N17, N18, N19, N20, N21, N22, N23, N24, N25, N26, N27, N28, N29, N30, N31, N32, N33, N34, N35, N36, N37, N38, N39, N40, N41, N42, N43, N45, N48, N57, N59, N88, N89, N97, N99, N120, N121, N122, N179, N200, N255, N300, N400, N880, N900, N999, N1019, N50000000, N100000000, N1000000000, N2147483647, N2147483648, h, e, w36, h36, refR]
      · rw [if_neg c3]
        unfold f_X7_ticks
        simp (disch := omega) only [gd_t, bd_s, nm_W, nm_I, I_add, I_sub, I_mul, I_neg, I_le_t, I_le_f, I_lt_t, I_lt_f, I_eq_t, I_eq_f, I_inb', I_ix', Int.toNat_natCast, decide_true, decide_false, Bool.not_false, Bool.not_true, if_true, if_false, wi_eq, wi_eq', wi_ne, wi_row, wi_2, N0, N1, N2, N3, N4, N5, N6, N7, N8, N9, N10, N11, N12, N13, N14, N15, N16, N17, N18, N19, N20, N21, N22, N23, N24, N25, N26, N27, N28, N29, N30, N31, N32, N33, N34, N35, N36, N37, N38, N39, N40, N41, N42, N43, N45, N48, N57, N59, N88, N89, N97, N99, N120, N121, N122, N179, N200, N255, N300, N400, N880, N900, N999, N1019, N50000000, N100000000, N1000000000, N2147483647, N2147483648, h, e, w36, h36]
theorem m_ticks (x : Int32) : MT (f_X6_ticks x) (f_X7_ticks x) := by
  intro σ τ B ⟨m, V, E, pres, kp, d, p, L, W, dl, pl, et, b, t, s, rd, h, n, g, hG⟩ hB
  obtain ⟨q, rfl, hq⟩ := argI x
  obtain ⟨bm, m10, m63⟩ := bMm hG.1
  have m24 : m = 11 ∨ m = 24 := by have := hG.1; omega
  have hQ := hG.2.2.1.1
  have tB := hG.2.2.1.2
  have c1 := cWithin (σ := σ) (lo := 1) (hi := 200) hq (by unfold R; omega) (by unfold R; omega)
  have c2 := rIn (σ := wi τ 102 0 (I 0)) (lo := 1) (hi := 200) hq (by unfold R; omega) (by unfold R; omega)
  have er := ticks_r (q := q) hG.2.2.2.1.2.1 (bn_bnd pres) c2 (bn_bnd _) hQ.2.2.1.1.2 (bn_bnd b)
  obtain ⟨x, σ', τ', k1, k2, k3⟩ := act_ok (B' := B + 200) (a := 1) (nn := bn (decide (1 ≤ q ∧ q ≤ 200))) (ss := bn b) (low := I (-1)) (K := fun σ4 => f_X6_ticks_35 FU (I q) (σ4.1 63 3) (I 0) σ4) (fr := f_X7_ticks (I q))
    hG (by omega) (by omega) (bn_bnd _) (bn_bnd _)
    (fun hc => by
      rw [er]
      rcases tc_cases (pres := pres) (a := 1) (n := bn (decide (1 ≤ q ∧ q ≤ 200))) (s := bn b) with ⟨q1, q2⟩ | ⟨-, q2, -⟩ | ⟨q1, -, q2, q3⟩ | ⟨q1, -, q2, q3, q4⟩ | ⟨-, -, -, -, q2⟩
      · rw [q2, if_pos (by rw [q1]; rfl)]; rfl
      · omega
      · rw [q3, if_neg (by rw [q1]; decide), if_pos q2]; rfl
      · rw [q4, if_neg (by rw [q1]; decide), if_neg q2, if_pos q3]; rfl
      · exact absurd q2 hc)
    (fun hp _ hn hs => by
      have y := bn_1 hn
      have bt : b = true := by
        cases e : b with
        | true => rfl
        | false => rw [e] at hs; cases hs
      subst bt
      rw [if_neg (by rw [hp]; decide), if_neg (by omega), if_neg (by decide)] at er
      have Q2 : QQ m 63 (wi σ 0 12 (I 0)) (wi τ 102 0 (I 0)) V E d p L W dl pl et true t s rd h n g := QQ_congr hQ m63 (fun k a1 a2 => wi_row (by omega)) (fun k a1 a2 => wi_row (by omega)) (fun i a1 a2 => wi_ne (by omega)) (wi_row (by decide)) (wi_row (by decide)) (wi_row (by decide)) (wi_row (by decide))
      obtain ⟨σ', τ1, z, d', s', rd', h', n', g', b1, b2, b3, ⟨⟨f1, f2⟩, ⟨f3, f4, f5⟩⟩⟩ := ticks_ok (N := q) (x2 := (wi σ 0 12 (I 0)).1 63 3) m10 m63 bm (by omega) y.2 q.toNat FU FU 0 t s rd (I 0) d h n g (wi σ 0 12 (I 0)) (wi τ 102 0 (I 0)) (by omega) (by omega) (by show _ < 6000; omega) (by show _ < 6000; omega) Q2 (by omega) hG.2.1 (addI0 _).symm
      obtain ⟨τ', hτ'⟩ : ∃ x, x = wi (wi τ1 102 1 (I 0)) 102 2 (I (-1)) := ⟨_, rfl⟩
      have QA : QQ m 63 σ' τ' V E d' p L W dl pl et true (t + (q.toNat : Int)) s' rd' h' n' g' := QQ_congr b3 m63 (fun _ _ _ => rfl) (fun _ _ _ => rfl) (fun i g1 g2 => by rw [hτ', wi_ne (by omega), wi_ne (by omega)]) (by rw [hτ', wi_row (by decide), wi_row (by decide)]) (by rw [hτ', wi_row (by decide), wi_row (by decide)]) (by rw [hτ', wi_row (by decide), wi_row (by decide)]) (by rw [hτ', wi_row (by decide), wi_row (by decide)])
      have ec : ∀ k, k ≠ 0 → k < 4 ∨ 9 < k → k ≠ m + 9 → k < 63 ∨ 75 < k → σ'.1 k = σ.1 k := fun k g1 g2 g3 g4 => by rw [f1 k g2 g3 (by omega), wi_row g1]
      have ek : ∀ k, k ≠ 102 → k ≠ 112 → k ≠ 116 → k ≠ 117 → τ'.1 k = τ.1 k := fun k g1 g2 g3 g4 => by rw [hτ', wi_row g1, wi_row g1, f3 k g1 g2 g3 g4, wi_row g1]
      have e2 : ∀ i, 3 ≤ i → i ≠ 37 → i ≠ 38 → τ'.1 102 i = τ.1 102 i := fun i g1 g2 g3 => by rw [hτ', wi_ne (by omega), wi_ne (by omega), f4 i g2 g3, wi_ne (by omega)]
      refine ⟨z, σ', τ', b1, by rw [er, b2, goodR, bd_s, hτ'], ⟨m, V, E, pres, kp, d', p, L, W, dl, pl, et, true, _, s', rd', h', n', g', GA_act hG hp (by omega) QA (by omega) (fun k hk => ec k (by omega) (by omega) (by omega) (by omega)) (fun i hi => by rw [f1 0 (by omega) (by omega) (by omega), wi_ne hi]) (by rw [f2, wi_2]) (fun k g1 g2 g3 => ek k (by omega) g3 (by omega) (by omega)) (fun i g1 g2 => e2 i g1 (by omega) (by omega)) (by rw [f1 0 (by omega) (by omega) (by omega), wi_eq]) (by rw [hτ', wi_ne (by decide), wi_eq]) (by rw [hτ', wi_eq])⟩, ⟨fun k hk => f1 k (by omega) (by omega) (by omega), by rw [f2]⟩, ⟨fun k hk => ek k (by omega) (by omega) (by omega) (by omega), by rw [hτ', wi_2, wi_2, f5, wi_2]⟩⟩)
  refine ⟨x, σ', τ', ?_, k2, k3⟩
  unfold f_X6_ticks
  rw [show (1 : Int32) = I 1 from rfl, show (200 : Int32) = I 200 from rfl, c1, bd_s, hQ.2.2.1.1.1]
  exact k1
