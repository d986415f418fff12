/-! PURE: the best move -/
def mv1 (d : MD) (p : Int) (pl : Nat → Int) (v : Nat) : Nat → Nat → Int × Int → Int × Int
  | 0, _, a => a
  | r + 1, w, a => mv1 d p pl v r (w + 1) (if mvc d p pl v w < a.2 then (10 * (v : Int) + (w : Int), mvc d p pl v w) else a)
def mv2 (d : MD) (p : Int) (pl : Nat → Int) (V : Nat) : Nat → Nat → Int × Int → Int × Int
  | 0, _, a => a
  | r + 1, v, a => mv2 d p pl V r (v + 1) (mv1 d p pl v V 0 a)
def mvb (a : Int × Int) : Prop := a.2 ≤ 0 ∧ -5000000 ≤ a.2
theorem mv1_b {d : MD} {V v : Nat} {p : Int} {pl : Nat → Int} (hd : MDok d V) (hv : v < V) (hb : PB pl V) : ∀ (r w : Nat) (a : Int × Int), w + r = V → mvb a → mvb (mv1 d p pl v r w a)
  | 0, _, _, _, h => h
  | r + 1, w, a, hw, h => by
    unfold mv1
    refine mv1_b hd hv hb r (w + 1) _ (by omega) ?_
    have b := mvc_b (p := p) hd hv (show w < V by omega) hb
    split
    · rename_i c
      have := h.1
      exact ⟨by show mvc d p pl v w ≤ 0; omega, b.1⟩
    · exact h
theorem c_mv1 {m : Nat} {σ : Wd} {V v : Nat} {d : MD} {p : Int} {pl : Nat → Int} {k25 : Int32 → Int32 → Int32 → Wd → Option (Int32 × Wd)} (hm : σ.2.2 0 4 = m) (hM : bM m = true) (h : CV m σ V d) (hd : MDok d V) (hp : R p) (hl : σ.1 m 1 = I p) (hv : v < V) (hb : PB pl V) (hpl : ∀ v, v < V → σ.1 (m + 7) v = I (pl v)) :
    ∀ (r w n : Nat) (z : Int) (a : Int × Int), z = (w : Int) → r < n → w + r = V → mvb a →
      f_X6_move_39 k25 n (I a.1) (I a.2) (I (v : Int)) (I z) σ = k25 (I (mv1 d p pl v r w a).1) (I (mv1 d p pl v r w a).2) (I ((v : Int) + 1)) σ
  | 0, w, n + 1, z, a, hz, _, hw, _ => by
    have h5 := hd.1
    rw [f_X6_move_39]
    simp (disch := omega) only [gd_t, bd_s, nm_W, nm_I, I_add, I_sub, I_mul, I_neg, I_le_t, I_le_f, I_lt_t, I_lt_f, I_eq_t, I_eq_f, I_inb', I_ix', Int.toNat_natCast, decide_true, decide_false, Bool.not_false, Bool.not_true, if_true, if_false, wi_eq, wi_eq', wi_ne, wi_row, wi_2, N0, N1, N2, N3, N4, N5, N6, N7, N8, N9, N10, N11, N12, N13, N14, N15, N16, N17, N18, N19, N20, N21, N22, N23, N24, N25, N26, N27, N28, N29, N30, N31, N32, N33, N34, N35, N36, N37, N38, N39, N40, N41, N42, N43, N45, N48, N57, N59, N88, N89, N97, N99, N120, N121, N122, N179, N200, N255, N300, N400, N880, N900, N999, N1019, N50000000, N100000000, N1000000000, N2147483647, N2147483648, hm, hM, h.1, mv1]
  | r + 1, w, n + 1, z, a, hz, hn, hw, ha => by
    subst hz
    have h5 := hd.1
    have hwV : w < V := by omega
    have b := mvc_b (p := p) hd hv hwV hb
    have a1 := ha.1
    have a2 := ha.2
    have e := cMove h hd hp hl hv hwV hb hpl
    rw [mv1]
    by_cases c : mvc d p pl v w < a.2
    · rw [if_pos c, f_X6_move_39]
      simp (disch := omega) only [gd_t, bd_s, nm_W, nm_I, I_add, I_sub, I_mul, I_neg, I_le_t, I_le_f, I_lt_t, I_lt_f, I_eq_t, I_eq_f, I_inb', I_ix', Int.toNat_natCast, decide_true, decide_false, Bool.not_false, Bool.not_true, if_true, if_false, wi_eq, wi_eq', wi_ne, wi_row, wi_2, N0, N1, N2, N3, N4, N5, N6, N7, N8, N9, N10, N11, N12, N13, N14, N15, N16, N17, N18, N19, N20, N21, N22, N23, N24, N25, N26, N27, N28, N29, N30, N31, N32, N33, N34, N35, N36, N37, N38, N39, N40, N41, N42, N43, N45, N48, N57, N59, N88, N89, N97, N99, N120, N121, N122, N179, N200, N255, N300, N400, N880, N900, N999, N1019, N50000000, N100000000, N1000000000, N2147483647, N2147483648, hm, hM, h.1, e, f_X6_move_80]
      exact c_mv1 hm hM h hd hp hl hv hb hpl r (w + 1) n _ (10 * (v : Int) + (w : Int), mvc d p pl v w) (by omega) (by omega) (by omega) ⟨by show mvc d p pl v w ≤ 0; omega, b.1⟩
    · rw [if_neg c, f_X6_move_39]
      simp (disch := omega) only [gd_t, bd_s, nm_W, nm_I, I_add, I_sub, I_mul, I_neg, I_le_t, I_le_f, I_lt_t, I_lt_f, I_eq_t, I_eq_f, I_inb', I_ix', Int.toNat_natCast, decide_true, decide_false, Bool.not_false, Bool.not_true, if_true, if_false, wi_eq, wi_eq', wi_ne, wi_row, wi_2, N0, N1, N2, N3, N4, N5, N6, N7, N8, N9, N10, N11, N12, N13, N14, N15, N16, N17, N18, N19, N20, N21, N22, N23, N24, N25, N26, N27, N28, N29, N30, N31, N32, N33, N34, N35, N36, N37, N38, N39, N40, N41, N42, N43, N45, N48, N57, N59, N88, N89, N97, N99, N120, N121, N122, N179, N200, N255, N300, N400, N880, N900, N999, N1019, N50000000, N100000000, N1000000000, N2147483647, N2147483648, hm, hM, h.1, e, f_X6_move_80]
      exact c_mv1 hm hM h hd hp hl hv hb hpl r (w + 1) n _ a (by omega) (by omega) (by omega) ha
theorem c_mv2 {m : Nat} {σ : Wd} {V : Nat} {d : MD} {p : Int} {pl : Nat → Int} (hm : σ.2.2 0 4 = m) (hM : bM m = true) (h : CV m σ V d) (hd : MDok d V) (hp : R p) (hl : σ.1 m 1 = I p) (hb : PB pl V) (hpl : ∀ v, v < V → σ.1 (m + 7) v = I (pl v)) :
    ∀ (r v n : Nat) (z : Int) (a : Int × Int), z = (v : Int) → r < n → v + r = V → mvb a →
      f_X6_move_25 n (I a.1) (I a.2) (I z) σ = some (I (mv2 d p pl V r v a).1, σ)
  | 0, v, n + 1, z, a, hz, _, hv, _ => by
    have h5 := hd.1
    rw [f_X6_move_25]
    simp (disch := omega) only [gd_t, bd_s, nm_W, nm_I, I_add, I_sub, I_mul, I_neg, I_le_t, I_le_f, I_lt_t, I_lt_f, I_eq_t, I_eq_f, I_inb', I_ix', Int.toNat_natCast, decide_true, decide_false, Bool.not_false, Bool.not_true, if_true, if_false, wi_eq, wi_eq', wi_ne, wi_row, wi_2, N0, N1, N2, N3, N4, N5, N6, N7, N8, N9, N10, N11, N12, N13, N14, N15, N16, N17, N18, N19, N20, N21, N22, N23, N24, N25, N26, N27, N28, N29, N30, N31, N32, N33, N34, N35, N36, N37, N38, N39, N40, N41, N42, N43, N45, N48, N57, N59, N88, N89, N97, N99, N120, N121, N122, N179, N200, N255, N300, N400, N880, N900, N999, N1019, N50000000, N100000000, N1000000000, N2147483647, N2147483648, hm, hM, h.1, mv2]
  | r + 1, v, n + 1, z, a, hz, hn, hv, ha => by
    subst hz
    have h5 := hd.1
    have hvV : v < V := by omega
    have e := c_mv1 (k25 := f_X6_move_25 n) hm hM h hd hp hl hvV hb hpl V 0 FU 0 a rfl (by show _ < 6000; omega) (by omega) ha
    rw [mv2, f_X6_move_25]
    simp (disch := omega) only [gd_t, bd_s, nm_W, nm_I, I_add, I_sub, I_mul, I_neg, I_le_t, I_le_f, I_lt_t, I_lt_f, I_eq_t, I_eq_f, I_inb', I_ix', Int.toNat_natCast, decide_true, decide_false, Bool.not_false, Bool.not_true, if_true, if_false, wi_eq, wi_eq', wi_ne, wi_row, wi_2, N0, N1, N2, N3, N4, N5, N6, N7, N8, N9, N10, N11, N12, N13, N14, N15, N16, N17, N18, N19, N20, N21, N22, N23, N24, N25, N26, N27, N28, N29, N30, N31, N32, N33, N34, N35, N36, N37, N38, N39, N40, N41, N42, N43, N45, N48, N57, N59, N88, N89, N97, N99, N120, N121, N122, N179, N200, N255, N300, N400, N880, N900, N999, N1019, N50000000, N100000000, N1000000000, N2147483647, N2147483648, hm, hM, h.1, e]
    exact c_mv2 hm hM h hd hp hl hb hpl r (v + 1) n _ _ (by omega) (by omega) (by omega) (mv1_b hd hvV hb V 0 a (by omega) ha)
theorem r_mv1 {σ : Wd} {V v : Nat} {d : MD} {p : Int} {pl : Nat → Int} {k38 : Int32 → Int32 → Int32 → Wd → Option (Int32 × Wd)} (h : RV σ V d) (hd : MDok d V) (hp : R p) (hl : σ.1 102 12 = I p) (hv : v < V) (hb : PB pl V) (hpl : ∀ v, v < V → σ.1 112 (43 + v) = I (pl v)) :
    ∀ (r w n : Nat) (z : Int) (a : Int × Int), z = (w : Int) → r < n → w + r = V → mvb a →
      f_X7_move_49 k38 n (I a.1) (I a.2) (I (v : Int)) (I z) σ = k38 (I (mv1 d p pl v r w a).1) (I (mv1 d p pl v r w a).2) (I ((v : Int) + 1)) σ
  | 0, w, n + 1, z, a, hz, _, hw, _ => by
    have h5 := hd.1
    rw [f_X7_move_49]
    simp (disch := omega) only [gd_t, bd_s, nm_W, nm_I, I_add, I_sub, I_mul, I_neg, I_le_t, I_le_f, I_lt_t, I_lt_f, I_eq_t, I_eq_f, I_inb', I_ix', Int.toNat_natCast, decide_true, decide_false, Bool.not_false, Bool.not_true, if_true, if_false, wi_eq, wi_eq', wi_ne, wi_row, wi_2, N0, N1, N2, N3, N4, N5, N6, N7, N8, N9, N10, N11, N12, N13, N14, N15, N16, N17, N18, N19, N20, N21, N22, N23, N24, N25, N26, N27, N28, N29, N30, N31, N32, N33, N34, N35, N36, N37, N38, N39, N40, N41, N42, N43, N45, N48, N57, N59, N88, N89, N97, N99, N120, N121, N122, N179, N200, N255, N300, N400, N880, N900, N999, N1019, N50000000, N100000000, N1000000000, N2147483647, N2147483648, h.1, mv1]
  | r + 1, w, n + 1, z, a, hz, hn, hw, ha => by
    subst hz
    have h5 := hd.1
    have hwV : w < V := by omega
    obtain ⟨-, lv, -⟩ := hd.2 v hv
    obtain ⟨-, lw, -⟩ := hd.2 w hwV
    have lb := lcv_b lv.1 lv.2 lw.1 lw.2
    have bv := hb v hv
    have bw := hb w hwV
    have db := dep_bnd (p := p) hd hwV
    have el := rLcm (σ := σ) lv.1 lv.2 lw.1 lw.2
    have b := mvc_b (p := p) hd hv hwV hb
    have a1 := ha.1
    have a2 := ha.2
    have t1 : ((43 : Int) + (v : Int)).toNat = 43 + v := by omega
    have t2 : ((43 : Int) + (w : Int)).toNat = 43 + w := by omega
    rw [mv1]
    by_cases c1 : v = w
    · have em : mvc d p pl v w = 0 := by unfold mvc; rw [if_pos c1]
      rw [if_neg (by omega), f_X7_move_49]
      simp (disch := omega) only [gd_t, bd_s, nm_W, nm_I, I_add, I_sub, I_mul, I_neg, I_le_t, I_le_f, I_lt_t, I_lt_f, I_eq_t, I_eq_f, I_inb', I_ix', Int.toNat_natCast, decide_true, decide_false, Bool.not_false, Bool.not_true, if_true, if_false, wi_eq, wi_eq', wi_ne, wi_row, wi_2, N0, N1, N2, N3, N4, N5, N6, N7, N8, N9, N10, N11, N12, N13, N14, N15, N16, N17, N18, N19, N20, N21, N22, N23, N24, N25, N26, N27, N28, N29, N30, N31, N32, N33, N34, N35, N36, N37, N38, N39, N40, N41, N42, N43, N45, N48, N57, N59, N88, N89, N97, N99, N120, N121, N122, N179, N200, N255, N300, N400, N880, N900, N999, N1019, N50000000, N100000000, N1000000000, N2147483647, N2147483648, h.1, rLot h hd hv, rLot h hd hwV, el, f_X7_move_210]
      exact r_mv1 h hd hp hl hv hb hpl r (w + 1) n _ a (by omega) (by omega) (by omega) ha
    · by_cases c2 : pl v < lcv (d.lo v) (d.lo w)
      · have em : mvc d p pl v w = 0 := by unfold mvc; rw [if_neg c1, if_pos c2]
        rw [if_neg (by omega), f_X7_move_49]
        simp (disch := omega) only [gd_t, bd_s, nm_W, nm_I, I_add, I_sub, I_mul, I_neg, I_le_t, I_le_f, I_lt_t, I_lt_f, I_eq_t, I_eq_f, I_inb', I_ix', Int.toNat_natCast, decide_true, decide_false, Bool.not_false, Bool.not_true, if_true, if_false, wi_eq, wi_eq', wi_ne, wi_row, wi_2, N0, N1, N2, N3, N4, N5, N6, N7, N8, N9, N10, N11, N12, N13, N14, N15, N16, N17, N18, N19, N20, N21, N22, N23, N24, N25, N26, N27, N28, N29, N30, N31, N32, N33, N34, N35, N36, N37, N38, N39, N40, N41, N42, N43, N45, N48, N57, N59, N88, N89, N97, N99, N120, N121, N122, N179, N200, N255, N300, N400, N880, N900, N999, N1019, N50000000, N100000000, N1000000000, N2147483647, N2147483648, h.1, rLot h hd hv, rLot h hd hwV, el, t1, hpl v hv, f_X7_move_210]
        exact r_mv1 h hd hp hl hv hb hpl r (w + 1) n _ a (by omega) (by omega) (by omega) ha
      · by_cases c3 : pl w + lcv (d.lo v) (d.lo w) ≤ dep d p w
        · have em : cst d v (pl v - lcv (d.lo v) (d.lo w)) + cst d w (pl w + lcv (d.lo v) (d.lo w)) - cst d v (pl v) - cst d w (pl w) = mvc d p pl v w := by
            unfold mvc
            rw [if_neg c1, if_neg c2, if_pos c3]
            omega
          by_cases c : mvc d p pl v w < a.2
          · rw [if_pos c, f_X7_move_49]
            simp (disch := omega) only [gd_t, bd_s, nm_W, nm_I, I_add, I_sub, I_mul, I_neg, I_le_t, I_le_f, I_lt_t, I_lt_f, I_eq_t, I_eq_f, I_inb', I_ix', Int.toNat_natCast, decide_true, decide_false, Bool.not_false, Bool.not_true, if_true, if_false, wi_eq, wi_eq', wi_ne, wi_row, wi_2, N0, N1, N2, N3, N4, N5, N6, N7, N8, N9, N10, N11, N12, N13, N14, N15, N16, N17, N18, N19, N20, N21, N22, N23, N24, N25, N26, N27, N28, N29, N30, N31, N32, N33, N34, N35, N36, N37, N38, N39, N40, N41, N42, N43, N45, N48, N57, N59, N88, N89, N97, N99, N120, N121, N122, N179, N200, N255, N300, N400, N880, N900, N999, N1019, N50000000, N100000000, N1000000000, N2147483647, N2147483648, h.1, rLot h hd hv, rLot h hd hwV, el, t1, t2, hpl v hv, hpl w hwV, rDepth h hd hwV hp hl, rCost h hd hv (n := pl v - lcv (d.lo v) (d.lo w)) (by omega) (by omega), rCost h hd hv (n := pl v) (by omega) (by omega), rCost h hd hwV (n := pl w + lcv (d.lo v) (d.lo w)) (by omega) (by omega), rCost h hd hwV (n := pl w) (by omega) (by omega), em, f_X7_move_210]
            exact r_mv1 h hd hp hl hv hb hpl r (w + 1) n _ (10 * (v : Int) + (w : Int), mvc d p pl v w) (by omega) (by omega) (by omega) ⟨by show mvc d p pl v w ≤ 0; omega, b.1⟩
          · rw [if_neg c, f_X7_move_49]
            simp (disch := omega) only [gd_t, bd_s, nm_W, nm_I, I_add, I_sub, I_mul, I_neg, I_le_t, I_le_f, I_lt_t, I_lt_f, I_eq_t, I_eq_f, I_inb', I_ix', Int.toNat_natCast, decide_true, decide_false, Bool.not_false, Bool.not_true, if_true, if_false, wi_eq, wi_eq', wi_ne, wi_row, wi_2, N0, N1, N2, N3, N4, N5, N6, N7, N8, N9, N10, N11, N12, N13, N14, N15, N16, N17, N18, N19, N20, N21, N22, N23, N24, N25, N26, N27, N28, N29, N30, N31, N32, N33, N34, N35, N36, N37, N38, N39, N40, N41, N42, N43, N45, N48, N57, N59, N88, N89, N97, N99, N120, N121, N122, N179, N200, N255, N300, N400, N880, N900, N999, N1019, N50000000, N100000000, N1000000000, N2147483647, N2147483648, h.1, rLot h hd hv, rLot h hd hwV, el, t1, t2, hpl v hv, hpl w hwV, rDepth h hd hwV hp hl, rCost h hd hv (n := pl v - lcv (d.lo v) (d.lo w)) (by omega) (by omega), rCost h hd hv (n := pl v) (by omega) (by omega), rCost h hd hwV (n := pl w + lcv (d.lo v) (d.lo w)) (by omega) (by omega), rCost h hd hwV (n := pl w) (by omega) (by omega), em, f_X7_move_210]
            exact r_mv1 h hd hp hl hv hb hpl r (w + 1) n _ a (by omega) (by omega) (by omega) ha
        · have em : mvc d p pl v w = 0 := by unfold mvc; rw [if_neg c1, if_neg c2, if_neg c3]
          rw [if_neg (by omega), f_X7_move_49]
          simp (disch := omega) only [gd_t, bd_s, nm_W, nm_I, I_add, I_sub, I_mul, I_neg, I_le_t, I_le_f, I_lt_t, I_lt_f, I_eq_t, I_eq_f, I_inb', I_ix', Int.toNat_natCast, decide_true, decide_false, Bool.not_false, Bool.not_true, if_true, if_false, wi_eq, wi_eq', wi_ne, wi_row, wi_2, N0, N1, N2, N3, N4, N5, N6, N7, N8, N9, N10, N11, N12, N13, N14, N15, N16, N17, N18, N19, N20, N21, N22, N23, N24, N25, N26, N27, N28, N29, N30, N31, N32, N33, N34, N35, N36, N37, N38, N39, N40, N41, N42, N43, N45, N48, N57, N59, N88, N89, N97, N99, N120, N121, N122, N179, N200, N255, N300, N400, N880, N900, N999, N1019, N50000000, N100000000, N1000000000, N2147483647, N2147483648, h.1, rLot h hd hv, rLot h hd hwV, el, t1, t2, hpl v hv, hpl w hwV, rDepth h hd hwV hp hl, f_X7_move_210]
          exact r_mv1 h hd hp hl hv hb hpl r (w + 1) n _ a (by omega) (by omega) (by omega) ha
theorem r_mv2 {σ : Wd} {V : Nat} {d : MD} {p : Int} {pl : Nat → Int} (h : RV σ V d) (hd : MDok d V) (hp : R p) (hl : σ.1 102 12 = I p) (hb : PB pl V) (hpl : ∀ v, v < V → σ.1 112 (43 + v) = I (pl v)) :
    ∀ (r v n : Nat) (z : Int) (a : Int × Int), z = (v : Int) → r < n → v + r = V → mvb a →
      f_X7_move_38 n (I a.1) (I a.2) (I z) σ = bd (f_X7_good (I (mv2 d p pl V r v a).1) σ) (fun r1 σ2 => some (r1, σ2))
  | 0, v, n + 1, z, a, hz, _, hv, _ => by
    have h5 := hd.1
    rw [f_X7_move_38]
    simp (disch := omega) only [gd_t, bd_s, nm_W, nm_I, I_add, I_sub, I_mul, I_neg, I_le_t, I_le_f, I_lt_t, I_lt_f, I_eq_t, I_eq_f, I_inb', I_ix', Int.toNat_natCast, decide_true, decide_false, Bool.not_false, Bool.not_true, if_true, if_false, wi_eq, wi_eq', wi_ne, wi_row, wi_2, N0, N1, N2, N3, N4, N5, N6, N7, N8, N9, N10, N11, N12, N13, N14, N15, N16, N17, N18, N19, N20, N21, N22, N23, N24, N25, N26, N27, N28, N29, N30, N31, N32, N33, N34, N35, N36, N37, N38, N39, N40, N41, N42, N43, N45, N48, N57, N59, N88, N89, N97, N99, N120, N121, N122, N179, N200, N255, N300, N400, N880, N900, N999, N1019, N50000000, N100000000, N1000000000, N2147483647, N2147483648, h.1, mv2]
  | r + 1, v, n + 1, z, a, hz, hn, hv, ha => by
    subst hz
    have h5 := hd.1
    have hvV : v < V := by omega
    have e := r_mv1 (k38 := f_X7_move_38 n) h hd hp hl hvV hb hpl V 0 FU 0 a rfl (by show _ < 6000; omega) (by omega) ha
    rw [mv2, f_X7_move_38]
    simp (disch := omega) only [gd_t, bd_s, nm_W, nm_I, I_add, I_sub, I_mul, I_neg, I_le_t, I_le_f, I_lt_t, I_lt_f, I_eq_t, I_eq_f, I_inb', I_ix', Int.toNat_natCast, decide_true, decide_false, Bool.not_false, Bool.not_true, if_true, if_false, wi_eq, wi_eq', wi_ne, wi_row, wi_2, N0, N1, N2, N3, N4, N5, N6, N7, N8, N9, N10, N11, N12, N13, N14, N15, N16, N17, N18, N19, N20, N21, N22, N23, N24, N25, N26, N27, N28, N29, N30, N31, N32, N33, N34, N35, N36, N37, N38, N39, N40, N41, N42, N43, N45, N48, N57, N59, N88, N89, N97, N99, N120, N121, N122, N179, N200, N255, N300, N400, N880, N900, N999, N1019, N50000000, N100000000, N1000000000, N2147483647, N2147483648, h.1, e]
    exact r_mv2 h hd hp hl hb hpl r (v + 1) n _ _ (by omega) (by omega) (by omega) (mv1_b hd hvV hb V 0 a (by omega) ha)
