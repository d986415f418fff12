/-! PURE: acts -/
theorem act_ok {m V E : Nat} {σ τ : Wd} {pres kp : Bool} {d : MD} {p L W : Int} {dl pl et : Nat → Int} {b : Bool} {t s rd : Int} {h n g : Nat → Int} {B B' a nn ss : Int} {low : Int32} {K : Wd → Option (Int32 × Wd)} {fr : Wd → Option (Int32 × Wd)}
    (hG : GA m σ τ V E pres kp d p L W dl pl et b t s rd h n g B) (hB : B ≤ B') (ha : 0 ≤ a ∧ a ≤ 1) (hn : 0 ≤ nn ∧ nn ≤ 1) (hs : 0 ≤ ss ∧ ss ≤ 1)
    (hr0 : tc pres a nn ss ≠ 0 → fr τ = some (low, wi (wi (wi τ 102 0 (I 0)) 102 1 (I (tc pres a nn ss))) 102 2 (I (-1))))
    (hr1 : pres = true → a = 1 → nn = 1 → ss = 1 → ∃ (x : Int32) (σ' τ' : Wd), K (wi σ 0 12 (I 0)) = some (x, σ') ∧ fr τ = some (x, τ') ∧ GG σ' τ' B' ∧ CL_ (wi σ 0 12 (I 0)) σ' ∧ RL_ τ τ') :
    ∃ (x : Int32) (σ' τ' : Wd), (bd (f_X6_granted (I a) (I nn) (I ss) σ) fun r1 σ2 => if r1 = 0 then some (low, σ2) else K σ2) = some (x, σ') ∧ fr τ = some (x, τ') ∧ GG σ' τ' B' ∧ CL_ σ σ' ∧ RL_ τ τ' := by
  have g5 := hG.2.2.2.1.1
  have e1 := cGrant (σ := σ) g5 ha hn hs
  have cb := tc_b (pres := pres) (a := a) (n := nn) (s := ss)
  by_cases c0 : tc pres a nn ss = 0
  · obtain ⟨x1, x2, x3, x4⟩ := tc_0 c0
    rw [c0] at e1
    obtain ⟨x, σ', τ', k1, k2, k3, k4, k5⟩ := hr1 x1 (by omega) (by omega) (by omega)
    refine ⟨x, σ', τ', ?_, k2, k3, ⟨fun k hk => by rw [k4.1 k hk, wi_row (by omega)], by rw [k4.2, wi_2]⟩, k5⟩
    rw [e1, bd_s, decide_eq_true rfl, bn_t, if_neg (by decide)]
    exact k1
  · refine ⟨low, wi σ 0 12 (I (tc pres a nn ss)), _, ?_, hr0 c0, ?_, ⟨fun k hk => by rw [wi_row (by omega)], by rw [wi_2]⟩, ⟨fun k hk => by rw [wi_row (by omega), wi_row (by omega), wi_row (by omega)], by rw [wi_2, wi_2, wi_2]⟩⟩
    · rw [e1, bd_s, decide_eq_false c0, bn_f, if_pos (show I 0 = (0 : Int32) from rfl)]
    · exact ⟨m, V, E, pres, kp, d, p, L, W, dl, pl, et, b, t, s, rd, h, n, g, GA_B (GA_q (c := tc pres a nn ss) hG (fun k a1 a2 => wi_row a1) (fun i a1 => wi_ne a1) wi_2 (fun k a1 a2 => by rw [wi_row a1, wi_row a1, wi_row a1]) (fun i a1 a2 => by rw [wi_ne (by omega), wi_ne (by omega), wi_ne (by omega)]) wi_eq (by rw [wi_ne (by decide), wi_eq]) wi_eq cb) hB⟩
theorem GA_act {m V E : Nat} {σ τ σ' τ' : Wd} {pres kp : Bool} {d d' : MD} {p L W W' : Int} {dl pl pl' et : Nat → Int} {b b' : Bool} {t s rd t' s' rd' : Int} {h n g h' n' g' : Nat → Int} {B B' : Int} (hG : GA m σ τ V E pres kp d p L W dl pl et b t s rd h n g B) (hp : pres = true) (hB : B ≤ B')
    (hQ : QQ m 63 σ' τ' V E d' p L W' dl pl' et b' t' s' rd' h' n' g') (ht : t' ≤ B') (c1 : ∀ k, (1 ≤ k ∧ k < 4) ∨ (37 ≤ k ∧ k < 50) ∨ (76 ≤ k ∧ k < 89) → σ'.1 k = σ.1 k) (c2 : ∀ i, i ≠ 12 → σ'.1 0 i = σ.1 0 i) (c3 : σ'.2 = σ.2) (e1 : ∀ k, 103 ≤ k → k < 116 → k ≠ 112 → τ'.1 k = τ.1 k) (e2 : ∀ i, 3 ≤ i → i < 37 ∨ 39 < i → τ'.1 102 i = τ.1 102 i)
    (t1 : σ'.1 0 12 = I 0) (t2 : τ'.1 102 1 = I 0) (t3 : τ'.1 102 2 = I (-1)) : GA m σ' τ' V E pres kp d' p L W' dl pl' et b' t' s' rd' h' n' g' B' := by
  obtain ⟨g1, g2, -, ⟨g5, g6, g7⟩, ⟨g8, g9, g10⟩, ⟨g11, g12⟩, ⟨tp, p1, p2, p3, p4⟩⟩ := hG
  refine ⟨by rw [c3]; exact g1, by rw [c3]; exact g2, ⟨hQ, ht⟩, ⟨by rw [c2 10 (by decide)]; exact g5, by rw [e2 21 (by decide) (by decide)]; exact g6, fun q => by rw [hp] at q; cases q⟩,
    ⟨by rw [c2 11 (by decide)]; exact g8, by rw [e2 25 (by decide) (by decide)]; exact g9, fun q => ⟨hp, KK_congr (g10 q).2 hB (fun k a1 a2 => c1 k (by omega)) (fun k a1 a2 => c1 k (by omega)) (fun i a1 a2 => e2 i (by omega) (by omega)) (e1 103 (by decide) (by decide) (by decide)) (e1 104 (by decide) (by decide) (by decide)) (e1 105 (by decide) (by decide) (by decide)) (e1 113 (by decide) (by decide) (by decide))⟩⟩,
    ⟨⟨by rw [t1, t2], fun q => ?_, fun _ => t3⟩, by rw [c2 13 (by decide), e2 33 (by decide) (by decide)]; exact g12⟩, ⟨tp, p1, by rw [c1 1 (by decide)]; exact p2, by rw [e2 27 (by decide) (by decide)]; exact p3, fun i hi => by rw [c1 2 (by decide), e1 115 (by decide) (by decide) (by decide)]; exact p4 i hi⟩⟩
  rw [t1, I_eq (by unfold R; omega) (by unfold R; omega)] at q
  omega
theorem order_r {τ : Wd} {x q a y W : Int} (h : τ.1 102 21 = I x) (hx : 0 ≤ x ∧ x ≤ 1) (e : f_X7_in (I q) (I 1) (I 120) (wi τ 102 0 (I 0)) = some (I a, wi τ 102 0 (I 0))) (ha : 0 ≤ a ∧ a ≤ 1) (h36 : τ.1 112 36 = I y) (hy : 0 ≤ y ∧ y ≤ 1) (h35 : τ.1 112 35 = I W) :
    f_X7_order (I q) τ = if x = 0 then some (I (-1), refW τ (I 1)) else if a = 0 then some (I (-1), refW τ (I 2)) else if y = 1 then some (I (-1), refW τ (I 5)) else some (I W, wi (wi (wi (wi τ 102 0 (I 0)) 112 35 (I q)) 102 1 (I 0)) 102 2 (I (-1))) := by
  have w35 : Int.toNat 35 = 35 := rfl
  have w36 : Int.toNat 36 = 36 := rfl
  by_cases c1 : x = 0
  · rw [if_pos c1]
    unfold f_X7_order refW
    simp (disch := omega) only [gd_t, bd_s, nm_W, nm_I, I_add, I_sub, I_mul, I_neg, I_le_t, I_le_f, I_lt_t, I_lt_f, I_eq_t, I_eq_f, I_inb', I_ix', Int.toNat_natCast, decide_true, decide_false, Bool.not_false, Bool.not_true, if_true, if_false, wi_eq, wi_eq', wi_ne, wi_row, wi_2, N0, N1, N2, N3, N4, N5, N6, N7, N8, N9, N10, N11, N12, N13, N14, N15, N16, N17, N18, N19, N20, N21, N22, N23, N24, N25, N26, N27, N28, N29, N30, N31, N32, N33, N34, N35, N36, N37, N38, N39, N40, N41, N42, N43, N45, N48, N57, N59, N88, N89, N97, N99, N120, N121, N122, N179, N200, N255, N300, N400, N880, N900, N999, N1019, N50000000, N100000000, N1000000000, N2147483647, N2147483648, h, refR]
  · rw [if_neg c1]
    by_cases c2 : a = 0
    · rw [if_pos c2]
      unfold f_X7_order refW
      simp (disch := omega) only [gd_t, bd_s, nm_W, nm_I, I_add, I_sub, I_mul, I_neg, I_le_t, I_le_f, I_lt_t, I_lt_f, I_eq_t, I_eq_f, I_inb', I_ix', Int.toNat_natCast, decide_true, decide_false, Bool.not_false, Bool.not_true, if_true, if_false, wi_eq, wi_eq', wi_ne, wi_row, wi_2, N0, N1, N2, N3, N4, N5, N6, N7, N8, N9, N10, N11, N12, N13, N14, N15, N16, N17, N18, N19, N20, N21, N22, N23, N24, N25, N26, N27, N28, N29, N30, N31, N32, N33, N34, N35, N36, N37, N38, N39, N40, N41, N42, N43, N45, N48, N57, N59, N88, N89, N97, N99, N120, N121, N122, N179, N200, N255, N300, N400, N880, N900, N999, N1019, N50000000, N100000000, N1000000000, N2147483647, N2147483648, h, e, refR]
    · rw [if_neg c2]
      by_cases c3 : y = 1
      · rw [if_pos c3]
        unfold f_X7_order refW
        simp (disch := omega) only [gd_t, bd_s, nm_W, nm_I, I_add, I_sub, I_mul, I_neg, I_le_t, I_le_f, I_lt_t, I_lt_f, I_eq_t, I_eq_f, I_inb', I_ix', Int.toNat_natCast, decide_true, decide_false, Bool.not_false, Bool.not_true, if_true, if_false, wi_eq, wi_eq', wi_ne, wi_row, wi_2, N0, N1, N2, N3, N4, N5, N6, N7, N8, N9, N10, N11, N12, N13, N14, N15, N16, N17, N18, N19, N20, N21, N22, N23, N24, N25, N26, N27, N28, N29, N30, N31, N32, N33, N34, N35, N36, N37, N38, N39, N40, N41, N42, N43, N45, N48, N57, N59, N88, N89, N97, N99, N120, N121, N122, N179, N200, N255, N300, N400, N880, N900, N999, N1019, N50000000, N100000000, N1000000000, N2147483647, N2147483648, h, e, w36, h36, refR]
      · rw [if_neg c3]
        unfold f_X7_order
        simp (disch := omega) only [gd_t, bd_s, nm_W, nm_I, I_add, I_sub, I_mul, I_neg, I_le_t, I_le_f, I_lt_t, I_lt_f, I_eq_t, I_eq_f, I_inb', I_ix', Int.toNat_natCast, decide_true, decide_false, Bool.not_false, Bool.not_true, if_true, if_false, wi_eq, wi_eq', wi_ne, wi_row, wi_2, N0, N1, N2, N3, N4, N5, N6, N7, N8, N9, N10, N11, N12, N13, N14, N15, N16, N17, N18, N19, N20, N21, N22, N23, N24, N25, N26, N27, N28, N29, N30, N31, N32, N33, N34, N35, N36, N37, N38, N39, N40, N41, N42, N43, N45, N48, N57, N59, N88, N89, N97, N99, N120, N121, N122, N179, N200, N255, N300, N400, N880, N900, N999, N1019, N50000000, N100000000, N1000000000, N2147483647, N2147483648, h, e, w36, h36, w35, h35, goodR]
