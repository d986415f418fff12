/-! PURE: the questions with an amount -/
def CL_ (σ σ' : Wd) : Prop := (∀ k, 102 ≤ k → σ'.1 k = σ.1 k) ∧ σ'.2.1 = σ.2.1
def RL_ (τ τ' : Wd) : Prop := (∀ k, k < 102 → τ'.1 k = τ.1 k) ∧ τ'.2.2 = τ.2.2
def QF (σ σ' : Wd) : Prop := (∀ k, k < 4 ∨ 10 < k → σ'.1 k = σ.1 k) ∧ σ'.2 = σ.2
def RQ (τ τ' : Wd) : Prop := (∀ k, k ≠ 102 → k < 116 ∨ 119 < k → τ'.1 k = τ.1 k) ∧ (∀ i, i < 37 ∨ 39 < i → τ'.1 102 i = τ.1 102 i) ∧ τ'.2 = τ.2
def MT (fc fr : Wd → Option (Int32 × Wd)) : Prop := ∀ (σ τ : Wd) (B : Int), GG σ τ B → B ≤ 200000 → ∃ (x : Int32) (σ' τ' : Wd), fc σ = some (x, σ') ∧ fr τ = some (x, τ') ∧ GG σ' τ' (B + 200) ∧ CL_ σ σ' ∧ RL_ τ τ'
theorem bMm {m : Nat} {x : Nat} (h : (m = 11 ∧ x = 24) ∨ (m = 24 ∧ x = 11)) : bM m = true ∧ 10 < m ∧ m + 12 < 63 := by
  rcases h with ⟨h, -⟩ | ⟨h, -⟩ <;> subst h <;> decide
theorem cAmount {σ : Wd} {pres : Bool} {a q : Int} (h : σ.1 0 10 = I (bn pres)) (ha : 0 ≤ a ∧ a ≤ 1) (hq : R q) :
    f_X6_grantedAmount (I a) (I q) σ = some (I (bn (decide (tc pres a (bn (decide (1 ≤ q ∧ q ≤ 120))) 1 = 0))), wi σ 0 12 (I (tc pres a (bn (decide (1 ≤ q ∧ q ≤ 120))) 1))) := by
  have e1 := cWithin (σ := σ) (lo := 1) (hi := 120) hq (by unfold R; omega) (by unfold R; omega)
  have e2 := cGrant (n := bn (decide (1 ≤ q ∧ q ≤ 120))) (s := 1) h ha (bn_bnd _) (by omega)
  unfold f_X6_grantedAmount
  rw [show (1 : Int32) = I 1 from rfl, show (120 : Int32) = I 120 from rfl, e1, bd_s, e2, bd_s, isb_b, gd_t]
theorem rAmount {τ : Wd} {pres : Bool} {a q : Int} (h : τ.1 102 21 = I (bn pres)) (ha : 0 ≤ a ∧ a ≤ 1) (hq : R q) :
    f_X7_refusesQ (I a) (I q) τ = some (I (tc pres a (bn (decide (1 ≤ q ∧ q ≤ 120))) 1), τ) := by
  have e1 := rIn (σ := τ) (lo := 1) (hi := 120) hq (by unfold R; omega) (by unfold R; omega)
  obtain ⟨y, hy⟩ : ∃ y, y = bn (decide (1 ≤ q ∧ q ≤ 120)) := ⟨_, rfl⟩
  have yb := bn_bnd (decide (1 ≤ q ∧ q ≤ 120))
  rw [← hy] at e1 yb ⊢
  obtain ⟨x, hx⟩ : ∃ x, x = bn pres := ⟨_, rfl⟩
  have xb := bn_bnd pres
  rw [← hx] at h xb
  by_cases c1 : x = 0
  · have e : tc pres a y 1 = 1 := by
      unfold tc
      rw [if_pos (Or.inl (by cases pres with
        | false => rfl
        | true => rw [hx] at c1; cases c1))]
    rw [e]
    unfold f_X7_refusesQ f_X7_refusesQ_11 f_X7_refusesQ_30
    simp (disch := omega) only [gd_t, bd_s, nm_W, nm_I, I_add, I_sub, I_mul, I_neg, I_le_t, I_le_f, I_lt_t, I_lt_f, I_eq_t, I_eq_f, I_inb', I_ix', Int.toNat_natCast, decide_true, decide_false, Bool.not_false, Bool.not_true, if_true, if_false, wi_eq, wi_eq', wi_ne, wi_row, wi_2, N0, N1, N2, N3, N4, N5, N6, N7, N8, N9, N10, N11, N12, N13, N14, N15, N16, N17, N18, N19, N20, N21, N22, N23, N24, N25, N26, N27, N28, N29, N30, N31, N32, N33, N34, N35, N36, N37, N38, N39, N40, N41, N42, N43, N45, N48, N57, N59, N88, N89, N97, N99, N120, N121, N122, N179, N200, N255, N300, N400, N880, N900, N999, N1019, N50000000, N100000000, N1000000000, N2147483647, N2147483648, h]
  · have pt : pres = true := by
      cases pres with
      | false => rw [hx] at c1; exact absurd rfl c1
      | true => rfl
    by_cases c2 : a = 0
    · have e : tc pres a y 1 = 1 := by unfold tc; rw [if_pos (Or.inr c2)]
      rw [e]
      unfold f_X7_refusesQ f_X7_refusesQ_11 f_X7_refusesQ_30
      simp (disch := omega) only [gd_t, bd_s, nm_W, nm_I, I_add, I_sub, I_mul, I_neg, I_le_t, I_le_f, I_lt_t, I_lt_f, I_eq_t, I_eq_f, I_inb', I_ix', Int.toNat_natCast, decide_true, decide_false, Bool.not_false, Bool.not_true, if_true, if_false, wi_eq, wi_eq', wi_ne, wi_row, wi_2, N0, N1, N2, N3, N4, N5, N6, N7, N8, N9, N10, N11, N12, N13, N14, N15, N16, N17, N18, N19, N20, N21, N22, N23, N24, N25, N26, N27, N28, N29, N30, N31, N32, N33, N34, N35, N36, N37, N38, N39, N40, N41, N42, N43, N45, N48, N57, N59, N88, N89, N97, N99, N120, N121, N122, N179, N200, N255, N300, N400, N880, N900, N999, N1019, N50000000, N100000000, N1000000000, N2147483647, N2147483648, h]
    · have h1 : ¬ (pres = false ∨ a = 0) := fun q => by
        rcases q with q | q
        · rw [pt] at q; cases q
        · exact c2 q
      by_cases c3 : y = 0
      · have e : tc pres a y 1 = 2 := by unfold tc; rw [if_neg h1, if_pos c3]
        rw [e]
        unfold f_X7_refusesQ f_X7_refusesQ_30
        simp (disch := omega) only [gd_t, bd_s, nm_W, nm_I, I_add, I_sub, I_mul, I_neg, I_le_t, I_le_f, I_lt_t, I_lt_f, I_eq_t, I_eq_f, I_inb', I_ix', Int.toNat_natCast, decide_true, decide_false, Bool.not_false, Bool.not_true, if_true, if_false, wi_eq, wi_eq', wi_ne, wi_row, wi_2, N0, N1, N2, N3, N4, N5, N6, N7, N8, N9, N10, N11, N12, N13, N14, N15, N16, N17, N18, N19, N20, N21, N22, N23, N24, N25, N26, N27, N28, N29, N30, N31, N32, N33, N34, N35, N36, N37, N38, N39, N40, N41, N42, N43, N45, N48, N57, N59, N88, N89, N97, N99, N120, N121, N122, N179, N200, N255, N300, N400, N880, N900, N999, N1019, N50000000, N100000000, N1000000000, N2147483647, N2147483648, h, e1]
      · have e : tc pres a y 1 = 0 := by unfold tc; rw [if_neg h1, if_neg c3, if_neg (by decide)]
        rw [e]
        unfold f_X7_refusesQ f_X7_refusesQ_30
        simp (disch := omega) only [gd_t, bd_s, nm_W, nm_I, I_add, I_sub, I_mul, I_neg, I_le_t, I_le_f, I_lt_t, I_lt_f, I_eq_t, I_eq_f, I_inb', I_ix', Int.toNat_natCast, decide_true, decide_false, Bool.not_false, Bool.not_true, if_true, if_false, wi_eq, wi_eq', wi_ne, wi_row, wi_2, N0, N1, N2, N3, N4, N5, N6, N7, N8, N9, N10, N11, N12, N13, N14, N15, N16, N17, N18, N19, N20, N21, N22, N23, N24, N25, N26, N27, N28, N29, N30, N31, N32, N33, N34, N35, N36, N37, N38, N39, N40, N41, N42, N43, N45, N48, N57, N59, N88, N89, N97, N99, N120, N121, N122, N179, N200, N255, N300, N400, N880, N900, N999, N1019, N50000000, N100000000, N1000000000, N2147483647, N2147483648, h, e1]
theorem goodR {τ : Wd} {x : Int32} : f_X7_good x τ = some (x, wi (wi τ 102 1 (I 0)) 102 2 (I (-1))) := rfl
theorem refR {τ : Wd} {c : Int32} : f_X7_refused c τ = some (I (-1), wi (wi τ 102 1 c) 102 2 (I (-1))) := rfl
theorem refL {τ : Wd} {c : Int32} : f_X7_refusedLow c τ = some (I (-2147483648), wi (wi τ 102 1 c) 102 2 (I (-1))) := rfl
theorem tc_0 {pres : Bool} {a n s : Int} (h : tc pres a n s = 0) : pres = true ∧ a ≠ 0 ∧ n ≠ 0 ∧ s ≠ 0 := by
  unfold tc at h
  by_cases c1 : pres = false ∨ a = 0
  · rw [if_pos c1] at h; omega
  · rw [if_neg c1] at h
    by_cases c2 : n = 0
    · rw [if_pos c2] at h; omega
    · rw [if_neg c2] at h
      by_cases c3 : s = 0
      · rw [if_pos c3] at h; omega
      · refine ⟨?_, fun q => c1 (Or.inr q), c2, c3⟩
        cases pres with
        | false => exact absurd (Or.inl rfl) c1
        | true => rfl
theorem tc_eq {pres : Bool} {a a' n s : Int} (h : pres = true → a = a') : tc pres a n s = tc pres a' n s := by
  cases pres with
  | false => unfold tc; rw [if_pos (Or.inl rfl), if_pos (Or.inl rfl)]
  | true => rw [h rfl]
set_option maxHeartbeats 1000000 in
theorem amt_ok {m V E : Nat} {σ τ : Wd} {pres kp : Bool} {d : MD} {p L W : Int} {dl pl et : Nat → Int} {b : Bool} {t s rd : Int} {h n g : Nat → Int} {B q a a' : Int} {low : Int32} {K K' : Wd → Option (Int32 × Wd)} {Rf : Int32 → Wd → Option (Int32 × Wd)}
    (hG : GA m σ τ V E pres kp d p L W dl pl et b t s rd h n g B) (hq : R q) (ha : 0 ≤ a ∧ a ≤ 1) (ha' : 0 ≤ a' ∧ a' ≤ 1) (haa : pres = true → a = a') (hRf : ∀ c τ, Rf c τ = some (low, wi (wi τ 102 1 c) 102 2 (I (-1))))
    (hK : pres = true → a = 1 → 1 ≤ q → q ≤ 120 → ∀ σ2 τ3, QM m σ2 τ3 V d p L W dl pl → σ2.2.2 0 4 = m → ∃ (x : Int32) (σ' τ4 : Wd), K σ2 = some (x, σ') ∧ K' τ3 = bd (f_X7_good x τ4) (fun r s => some (r, s)) ∧ QF σ2 σ' ∧ RQ τ3 τ4) :
    ∃ (x : Int32) (σ' τ' : Wd), (bd (f_X6_grantedAmount (I a) (I q) σ) fun r1 σ2 => if r1 = 0 then some (low, σ2) else K σ2) = some (x, σ')
      ∧ (nmW (wi τ 102 0 (0 : Int32)) fun σ1 => bd (f_X7_refusesQ (I a') (I q) σ1) fun r2 σ3 => if r2 ≤ 0 then K' σ3 else bd (Rf r2 σ3) fun r s => some (r, s)) = some (x, τ')
      ∧ GA m σ' τ' V E pres kp d p L W dl pl et b t s rd h n g B ∧ CL_ σ σ' ∧ RL_ τ τ' := by
  have hG0 := hG
  obtain ⟨g1, g2, ⟨g3, g4⟩, ⟨g5, g6, g7⟩, -⟩ := hG0
  obtain ⟨bm, m10, m63⟩ := bMm g1
  have e1 := cAmount (σ := σ) g5 ha hq
  have e2 := rAmount (τ := wi τ 102 0 (I 0)) (by rw [wi_ne (by decide)]; exact g6) ha' hq
  rw [← tc_eq haa] at e2
  obtain ⟨c, hc⟩ : ∃ c, c = tc pres a (bn (decide (1 ≤ q ∧ q ≤ 120))) 1 := ⟨_, rfl⟩
  have cb := tc_b (pres := pres) (a := a) (n := bn (decide (1 ≤ q ∧ q ≤ 120))) (s := 1)
  rw [← hc] at e1 e2 cb
  have z0 : (0 : Int32) = I 0 := rfl
  rw [nm_W, z0, e1, e2, bd_s, bd_s]
  by_cases c0 : c = 0
  · obtain ⟨x1, x2, x3, -⟩ := tc_0 (hc.symm.trans c0)
    have x4 : 1 ≤ q ∧ q ≤ 120 := by
      by_cases y : 1 ≤ q ∧ q ≤ 120
      · exact y
      · rw [decide_eq_false y] at x3; exact absurd rfl x3
    have M2 : QM m (wi σ 0 12 (I c)) (wi τ 102 0 (I 0)) V d p L W dl pl := QM_rows g3.1 (fun k a1 a2 => wi_row (by omega)) (fun i a1 a2 => wi_ne (by omega)) (wi_row (by decide)) (wi_row (by decide)) (fun i _ => by rw [wi_row (by decide)])
    obtain ⟨x, σ', τ4, k1, k2, ⟨k3, k4⟩, ⟨k5, k6, k7⟩⟩ := hK x1 (by omega) x4.1 x4.2 _ _ M2 (by rw [wi_2]; exact g2)
    refine ⟨x, σ', wi (wi τ4 102 1 (I 0)) 102 2 (I (-1)), ?_, ?_, ?_, ⟨fun k hk => by rw [k3 k (by omega), wi_row (by omega)], by rw [k4, wi_2]⟩, ⟨fun k hk => by rw [wi_row (by omega), wi_row (by omega), k5 k (by omega) (by omega), wi_row (by omega)], by rw [wi_2, wi_2, k7, wi_2]⟩⟩
    · rw [decide_eq_true c0, bn_t, if_neg (by decide)]
      exact k1
    · rw [c0, if_pos (by decide), k2, goodR]
      rfl
    · refine GA_q (c := 0) hG (fun k a1 a2 => by rw [k3 k a2, wi_row a1]) (fun i a1 => by rw [k3 0 (by decide), wi_ne a1]) (by rw [k4, wi_2]) (fun k a1 a2 => by rw [wi_row a1, wi_row a1, k5 k a1 a2, wi_row a1]) (fun i a1 a2 => by rw [wi_ne (by omega), wi_ne (by omega), k6 i a2, wi_ne (by omega)]) (by rw [k3 0 (by decide), wi_eq, c0]) (by rw [wi_ne (by decide), wi_eq]) wi_eq (by omega)
  · have nc : ¬ I c ≤ I 0 := by rw [I_le (by unfold R; omega) (by unfold R; omega)]; omega
    refine ⟨low, wi σ 0 12 (I c), wi (wi (wi τ 102 0 (I 0)) 102 1 (I c)) 102 2 (I (-1)), ?_, ?_, ?_, ⟨fun k hk => by rw [wi_row (by omega)], by rw [wi_2]⟩, ⟨fun k hk => by rw [wi_row (by omega), wi_row (by omega), wi_row (by omega)], by rw [wi_2, wi_2, wi_2]⟩⟩
    · rw [decide_eq_false c0, bn_f, if_pos rfl]
    · rw [if_neg nc, hRf]
      rfl
    · exact GA_q (c := c) hG (fun k a1 a2 => wi_row a1) (fun i a1 => wi_ne a1) wi_2 (fun k a1 a2 => by rw [wi_row a1, wi_row a1, wi_row a1]) (fun i a1 a2 => by rw [wi_ne (by omega), wi_ne (by omega), wi_ne (by omega)]) wi_eq (by rw [wi_ne (by decide), wi_eq]) wi_eq cb
/-! helpers at a granted call -/
theorem QM_p {m V : Nat} {σ τ : Wd} {d : MD} {p L W : Int} {dl pl : Nat → Int} (h : QM m σ τ V d p L W dl pl) : R p := by
  have := h.2.2.2.1
  unfold R
  omega
theorem nat_of {q : Int} (h1 : 0 ≤ q) (h2 : q ≤ 120) : ∃ n : Nat, q = (n : Int) ∧ n ≤ 120 := ⟨q.toNat, by omega, by omega⟩
theorem best2 {m V : Nat} {σ τ : Wd} {d : MD} {p L W q but : Int} {dl pl : Nat → Int} (hm : 10 < m) (h : QM m σ τ V d p L W dl pl) (h0 : 0 ≤ q) (h1 : q ≤ 120) (hb : R but) :
    ∃ (σ' τ' : Wd) (U : Nat) (C : Int32) (sh : Nat → Int32), f_X1_choose m (I q) (I but) σ = some (0, σ') ∧ f_X7_laysBest (I q) (I but) τ = some (0, τ') ∧ U ≤ 120 ∧ (σ'.1 4 0 = I (U : Int) ∧ τ'.1 102 37 = I (U : Int)) ∧ (σ'.1 4 1 = C ∧ τ'.1 102 38 = C) ∧ (∀ v, v < V → σ'.1 5 v = sh v ∧ τ'.1 117 v = sh v)
      ∧ QF σ σ' ∧ RQ τ τ' ∧ QM m σ' τ' V d p L W dl pl := by
  obtain ⟨n, rfl, n1⟩ := nat_of h0 h1
  obtain ⟨σ', a1, a2, a3, a4, a5, a6⟩ := cChoose (q := n) (but := but) hm h.1 (QM_p h) hb n1 h.2.1 h.2.2.2.1.1
  obtain ⟨τ', b1, b2, b3, b4, b5, b6, b7⟩ := rBest (q := n) (but := but) h.1 (QM_p h) hb n1 h.2.2.1 h.2.2.2.1.2.1
  have ub := bu_le (f := lcs d p but V V) n
  refine ⟨σ', τ', bu (lcs d p but V V) n, _, fun v => I (shs d p but V V (bu (lcs d p but V V) n) v : Int), a1, b1, by omega, ⟨a2, b2⟩, ⟨a3, b3⟩, fun v hv => ⟨a4 v hv, b4 v hv⟩, ⟨fun k hk => a5 k (by omega), a6⟩, ⟨fun k k1 k2 => b5 k k1 (by omega) (by omega), fun i hi => b6 i (by omega) (by omega), b7⟩, ?_⟩
  exact QM_rows h (fun k k1 k2 => a5 k (by omega)) (fun i i1 i2 => b6 i (by omega) (by omega)) (b5 103 (by decide) (by decide) (by decide)) (b5 104 (by decide) (by decide) (by decide)) (fun i _ => by rw [b5 112 (by decide) (by decide) (by decide)])
theorem QF_trans {a b c : Wd} (h : QF a b) (g : QF b c) : QF a c := ⟨fun k hk => by rw [g.1 k hk, h.1 k hk], by rw [g.2, h.2]⟩
theorem RQ_trans {a b c : Wd} (h : RQ a b) (g : RQ b c) : RQ a c := ⟨fun k k1 k2 => by rw [g.1 k k1 k2, h.1 k k1 k2], fun i hi => by rw [g.2.1 i hi, h.2.1 i hi], by rw [g.2.2, h.2.2]⟩
theorem argI (x : Int32) : ∃ z : Int, x = I z ∧ R z := ⟨x.toInt, (I_of x).symm, toInt_R x⟩
theorem m_units (x : Int32) : MT (f_X6_units x) (f_X7_units x) := by
  intro σ τ B ⟨m, V, E, pres, kp, d, p, L, W, dl, pl, et, b, t, s, rd, h, n, g, hG⟩ hB
  obtain ⟨q, rfl, hq⟩ := argI x
  obtain ⟨bm, m10, m63⟩ := bMm hG.1
  obtain ⟨x, σ', τ', k1, k2, k3, k4⟩ := amt_ok (a := 1) (a' := 1) (low := I (-1)) (K := fun σ2 => gd (bM (σ2.2.2 0 4)) (bd (f_X1_choose (σ2.2.2 0 4) (I q) (I (-1)) σ2) fun _ σ4 => some (σ4.1 4 0, σ4))) (K' := fun σ3 => bd (f_X7_laysBest (I q) (I (-1)) σ3) fun _ σ4 => bd (f_X7_good (σ4.1 102 37) σ4) fun r5 σ6 => some (r5, σ6)) (Rf := f_X7_refused)
    hG hq (by omega) (by omega) (fun _ => rfl) (fun c τ => refR) (fun _ _ q1 q2 σ2 τ3 hM hm => by
      obtain ⟨σ', τ', U, C, sh, e1, e2, e3, ⟨e4, e5⟩, e6, e7, e8, e9, e10⟩ := best2 (but := -1) m10 hM (show 0 ≤ q by omega) q2 (by unfold R; omega)
      exact ⟨I (U : Int), σ', τ', by rw [hm, bm, gd_t, e1, bd_s, e4], by rw [e2, bd_s, e5], e8, e9⟩)
  exact ⟨x, σ', τ', k1, k2, ⟨m, V, E, pres, kp, d, p, L, W, dl, pl, et, b, t, s, rd, h, n, g, GA_B k3 (by omega)⟩, k4⟩
theorem m_best (x : Int32) : MT (f_X6_best x) (f_X7_best x) := by
  intro σ τ B ⟨m, V, E, pres, kp, d, p, L, W, dl, pl, et, b, t, s, rd, h, n, g, hG⟩ hB
  obtain ⟨q, rfl, hq⟩ := argI x
  obtain ⟨bm, m10, m63⟩ := bMm hG.1
  obtain ⟨x, σ', τ', k1, k2, k3, k4⟩ := amt_ok (a := 1) (a' := 1) (low := I (-2147483648)) (K := fun σ2 => gd (bM (σ2.2.2 0 4)) (bd (f_X1_choose (σ2.2.2 0 4) (I q) (I (-1)) σ2) fun _ σ4 => some (σ4.1 4 1, σ4))) (K' := fun σ3 => bd (f_X7_laysBest (I q) (I (-1)) σ3) fun _ σ4 => bd (f_X7_good (σ4.1 102 38) σ4) fun r5 σ6 => some (r5, σ6)) (Rf := f_X7_refusedLow)
    hG hq (by omega) (by omega) (fun _ => rfl) (fun c τ => refL) (fun _ _ q1 q2 σ2 τ3 hM hm => by
      obtain ⟨σ', τ', U, C, sh, e1, e2, e3, e4, ⟨e5, e6⟩, e7, e8, e9, e10⟩ := best2 (but := -1) m10 hM (show 0 ≤ q by omega) q2 (by unfold R; omega)
      exact ⟨C, σ', τ', by rw [hm, bm, gd_t, e1, bd_s, e5], by rw [e2, bd_s, e6], e8, e9⟩)
  exact ⟨x, σ', τ', k1, k2, ⟨m, V, E, pres, kp, d, p, L, W, dl, pl, et, b, t, s, rd, h, n, g, GA_B k3 (by omega)⟩, k4⟩
