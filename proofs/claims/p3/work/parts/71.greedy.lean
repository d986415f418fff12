/-! PURE: the greedy split: a v lots at venue v -/
def gn (d : MD) (a : Nat → Nat) (v : Nat) : Int := ((a v * (d.lo v).toNat : Nat) : Int)
def nx (d : MD) (a : Nat → Nat) (v : Nat) : Int := cst d v (gn d a v + d.lo v) - cst d v (gn d a v)
def gs (d : MD) (p left : Int) (a : Nat → Nat) : Nat → Nat → Int → Int
  | 0, _, b => b
  | r + 1, v, b => gs d p left a r (v + 1) (if d.lo v ≤ left ∧ gn d a v + d.lo v ≤ dep d p v then (if b = -1 then (v : Int) else if nx d a v * d.lo b.toNat < nx d a b.toNat * d.lo v then (v : Int) else b) else b)
/-- what may be taken next -/
def okl (d : MD) (p left : Int) (a : Nat → Nat) (V : Nat) (b : Int) : Prop := b = -1 ∨ (0 ≤ b ∧ b < (V : Int) ∧ d.lo b.toNat ≤ left ∧ gn d a b.toNat + d.lo b.toNat ≤ dep d p b.toNat)
theorem gs_ok {d : MD} {p left : Int} {a : Nat → Nat} {V : Nat} : ∀ (r v : Nat) (b : Int), v + r = V → okl d p left a V b → okl d p left a V (gs d p left a r v b)
  | 0, _, _, _, h => h
  | r + 1, v, b, hv, h => by
    unfold gs
    refine gs_ok r (v + 1) _ (by omega) ?_
    split
    · rename_i c
      have hvb : okl d p left a V (v : Int) := Or.inr ⟨by omega, by omega, by rw [Int.toNat_natCast]; exact c.1, by rw [Int.toNat_natCast]; exact c.2⟩
      split
      · exact hvb
      · split
        · exact hvb
        · exact h
    · exact h
theorem gs_no {d : MD} {p left : Int} {a : Nat → Nat} {V : Nat} (hd : MDok d V) (h : left ≤ 0) : ∀ (r v : Nat), v + r = V → gs d p left a r v (-1) = -1
  | 0, _, _ => rfl
  | r + 1, v, hv => by
    obtain ⟨-, lb, -⟩ := hd.2 v (by omega)
    unfold gs
    rw [if_neg (fun q => absurd q.1 (by omega))]
    exact gs_no hd h r (v + 1) (by omega)
def GB (d : MD) (a : Nat → Nat) (V : Nat) (left : Int) (q : Nat) : Prop := 0 ≤ left ∧ q ≤ 120 ∧ ∀ v, v < V → gn d a v + left ≤ (q : Int)
theorem gn_nn {d : MD} {a : Nat → Nat} {v : Nat} : 0 ≤ gn d a v := by unfold gn; omega
theorem nx_bnd {d : MD} {V v : Nat} {a : Nat → Nat} {left : Int} {q : Nat} (hd : MDok d V) (hg : GB d a V left q) (hv : v < V) : -1100000 ≤ nx d a v ∧ nx d a v ≤ 1100000 := by
  obtain ⟨-, lb, -⟩ := hd.2 v hv
  have g0 := gn_nn (d := d) (a := a) (v := v)
  have g1 := hg.2.2 v hv
  have g2 := hg.2.1
  have g3 := hg.1
  have c1 := cst_bnd (n := gn d a v + d.lo v) hd hv (by omega) (by omega)
  have c2 := cst_bnd (n := gn d a v) hd hv (by omega) (by omega)
  unfold nx
  omega
theorem lo_mul {x l : Int} (h1 : -1100000 ≤ x) (h2 : x ≤ 1100000) (l1 : 1 ≤ l) (l2 : l ≤ 20) : -22000000 ≤ x * l ∧ x * l ≤ 22000000 := by
  have h : l = 1 ∨ l = 2 ∨ l = 3 ∨ l = 4 ∨ l = 5 ∨ l = 6 ∨ l = 7 ∨ l = 8 ∨ l = 9 ∨ l = 10 ∨ l = 11 ∨ l = 12 ∨ l = 13 ∨ l = 14 ∨ l = 15 ∨ l = 16 ∨ l = 17 ∨ l = 18 ∨ l = 19 ∨ l = 20 := by omega
  rcases h with h | h | h | h | h | h | h | h | h | h | h | h | h | h | h | h | h | h | h | h <;> subst h <;> omega
/-! the reference -/
theorem rNext {σ : Wd} {V v q : Nat} {d : MD} {a : Nat → Nat} {left : Int} (h : RV σ V d) (hd : MDok d V) (hv : v < V) (hg : GB d a V left q) (ha : σ.1 118 v = I (gn d a v)) : f_X7_nextCost (I (v : Int)) σ = some (I (nx d a v), σ) := by
  have v5 : v < 5 := Nat.lt_of_lt_of_le hv hd.1
  obtain ⟨-, lb, -⟩ := hd.2 v hv
  have g0 := gn_nn (d := d) (a := a) (v := v)
  have g1 := hg.2.2 v hv
  have g2 := hg.2.1
  have g3 := hg.1
  unfold f_X7_nextCost nx
  simp (disch := omega) only [gd_t, bd_s, nm_W, nm_I, I_add, I_sub, I_mul, I_neg, I_le_t, I_le_f, I_lt_t, I_lt_f, I_eq_t, I_eq_f, I_inb', I_ix', Int.toNat_natCast, decide_true, decide_false, Bool.not_false, Bool.not_true, if_true, if_false, wi_eq, wi_eq', wi_ne, wi_row, wi_2, N0, N1, N2, N3, N4, N5, N6, N7, N8, N9, N10, N11, N12, N13, N14, N15, N16, N17, N18, N19, N20, N21, N22, N23, N24, N25, N26, N27, N28, N29, N30, N31, N32, N33, N34, N35, N36, N37, N38, N39, N40, N41, N42, N43, N45, N48, N57, N59, N88, N89, N97, N99, N120, N121, N122, N179, N200, N255, N300, N400, N880, N900, N999, N1019, N50000000, N100000000, N1000000000, N2147483647, N2147483648, rLot h hd hv, ha, rCost h hd hv (n := gn d a v + d.lo v) (by omega) (by omega), rCost h hd hv (n := gn d a v) (by omega) (by omega)]
theorem r_gs {σ : Wd} {V q : Nat} {p left : Int} {d : MD} {a : Nat → Nat} (h : RV σ V d) (hd : MDok d V) (hp : R p) (hl : σ.1 102 12 = I p) (hg : GB d a V left q) (ha : ∀ v, v < V → σ.1 118 v = I (gn d a v)) :
    ∀ (r v n : Nat) (b z : Int), z = (v : Int) → r < n → v + r = V → okl d p left a V b →
      f_X7_nextGreedy_4 n (I left) (I b) (I z) σ = some (I (gs d p left a r v b), σ)
  | 0, v, n + 1, b, z, hz, _, hv, _ => by
    have h5 := hd.1
    rw [f_X7_nextGreedy_4]
    simp (disch := omega) only [gd_t, bd_s, nm_W, nm_I, I_add, I_sub, I_mul, I_neg, I_le_t, I_le_f, I_lt_t, I_lt_f, I_eq_t, I_eq_f, I_inb', I_ix', Int.toNat_natCast, decide_true, decide_false, Bool.not_false, Bool.not_true, if_true, if_false, wi_eq, wi_eq', wi_ne, wi_row, wi_2, N0, N1, N2, N3, N4, N5, N6, N7, N8, N9, N10, N11, N12, N13, N14, N15, N16, N17, N18, N19, N20, N21, N22, N23, N24, N25, N26, N27, N28, N29, N30, N31, N32, N33, N34, N35, N36, N37, N38, N39, N40, N41, N42, N43, N45, N48, N57, N59, N88, N89, N97, N99, N120, N121, N122, N179, N200, N255, N300, N400, N880, N900, N999, N1019, N50000000, N100000000, N1000000000, N2147483647, N2147483648, h.1, gs]
  | r + 1, v, n + 1, b, z, hz, hn, hv, hb => by
    subst hz
    have h5 := hd.1
    have hvV : v < V := by omega
    obtain ⟨-, lb, -⟩ := hd.2 v hvV
    have g0 := gn_nn (d := d) (a := a) (v := v)
    have g1 := hg.2.2 v hvV
    have g2 := hg.2.1
    have g3 := hg.1
    have db := dep_bnd (p := p) hd hvV
    have nb := nx_bnd hd hg hvV
    have ev := rNext h hd hvV hg (ha v hvV)
    have ih := fun b (hb : okl d p left a V b) => r_gs h hd hp hl hg ha r (v + 1) n b ((v : Int) + 1) (by omega) (by omega) (by omega) hb
    rw [gs]
    by_cases c1 : d.lo v ≤ left
    · by_cases c2 : gn d a v + d.lo v ≤ dep d p v
      · have hvb : okl d p left a V (v : Int) := Or.inr ⟨by omega, by omega, by rw [Int.toNat_natCast]; exact c1, by rw [Int.toNat_natCast]; exact c2⟩
        rw [if_pos ⟨c1, c2⟩]
        by_cases c3 : b = -1
        · rw [if_pos c3]
          rw [f_X7_nextGreedy_4]
          simp (disch := omega) only [gd_t, bd_s, nm_W, nm_I, I_add, I_sub, I_mul, I_neg, I_le_t, I_le_f, I_lt_t, I_lt_f, I_eq_t, I_eq_f, I_inb', I_ix', Int.toNat_natCast, decide_true, decide_false, Bool.not_false, Bool.not_true, if_true, if_false, wi_eq, wi_eq', wi_ne, wi_row, wi_2, N0, N1, N2, N3, N4, N5, N6, N7, N8, N9, N10, N11, N12, N13, N14, N15, N16, N17, N18, N19, N20, N21, N22, N23, N24, N25, N26, N27, N28, N29, N30, N31, N32, N33, N34, N35, N36, N37, N38, N39, N40, N41, N42, N43, N45, N48, N57, N59, N88, N89, N97, N99, N120, N121, N122, N179, N200, N255, N300, N400, N880, N900, N999, N1019, N50000000, N100000000, N1000000000, N2147483647, N2147483648, h.1, rLot h hd hvV, ha v hvV, rDepth h hd hvV hp hl, f_X7_nextGreedy_74, f_X7_nextGreedy_76]
          exact ih _ hvb
        · rw [if_neg c3]
          rcases hb with hb | ⟨b1, b2, b3, b4⟩
          · exact absurd hb c3
          · obtain ⟨w, rfl⟩ := Int.eq_ofNat_of_zero_le b1
            have hw : w < V := by omega
            rw [Int.toNat_natCast] at b3 b4 ⊢
            obtain ⟨-, lw, -⟩ := hd.2 w hw
            have nw := nx_bnd hd hg hw
            have ew := rNext h hd hw hg (ha w hw)
            have m1 := lo_mul nb.1 nb.2 lw.1 lw.2
            have m2 := lo_mul nw.1 nw.2 lb.1 lb.2
            by_cases c4 : nx d a v * d.lo w < nx d a w * d.lo v
            · rw [if_pos c4]
              rw [f_X7_nextGreedy_4]
              simp (disch := omega) only [gd_t, bd_s, nm_W, nm_I, I_add, I_sub, I_mul, I_neg, I_le_t, I_le_f, I_lt_t, I_lt_f, I_eq_t, I_eq_f, I_inb', I_ix', Int.toNat_natCast, decide_true, decide_false, Bool.not_false, Bool.not_true, if_true, if_false, wi_eq, wi_eq', wi_ne, wi_row, wi_2, N0, N1, N2, N3, N4, N5, N6, N7, N8, N9, N10, N11, N12, N13, N14, N15, N16, N17, N18, N19, N20, N21, N22, N23, N24, N25, N26, N27, N28, N29, N30, N31, N32, N33, N34, N35, N36, N37, N38, N39, N40, N41, N42, N43, N45, N48, N57, N59, N88, N89, N97, N99, N120, N121, N122, N179, N200, N255, N300, N400, N880, N900, N999, N1019, N50000000, N100000000, N1000000000, N2147483647, N2147483648, h.1, rLot h hd hvV, rLot h hd hw, ha v hvV, rDepth h hd hvV hp hl, ev, ew, f_X7_nextGreedy_74, f_X7_nextGreedy_76]
              exact ih _ hvb
            · rw [if_neg c4]
              rw [f_X7_nextGreedy_4]
              simp (disch := omega) only [gd_t, bd_s, nm_W, nm_I, I_add, I_sub, I_mul, I_neg, I_le_t, I_le_f, I_lt_t, I_lt_f, I_eq_t, I_eq_f, I_inb', I_ix', Int.toNat_natCast, decide_true, decide_false, Bool.not_false, Bool.not_true, if_true, if_false, wi_eq, wi_eq', wi_ne, wi_row, wi_2, N0, N1, N2, N3, N4, N5, N6, N7, N8, N9, N10, N11, N12, N13, N14, N15, N16, N17, N18, N19, N20, N21, N22, N23, N24, N25, N26, N27, N28, N29, N30, N31, N32, N33, N34, N35, N36, N37, N38, N39, N40, N41, N42, N43, N45, N48, N57, N59, N88, N89, N97, N99, N120, N121, N122, N179, N200, N255, N300, N400, N880, N900, N999, N1019, N50000000, N100000000, N1000000000, N2147483647, N2147483648, h.1, rLot h hd hvV, rLot h hd hw, ha v hvV, rDepth h hd hvV hp hl, ev, ew, f_X7_nextGreedy_74, f_X7_nextGreedy_76]
              exact ih _ (Or.inr ⟨b1, b2, by rw [Int.toNat_natCast]; exact b3, by rw [Int.toNat_natCast]; exact b4⟩)
      · rw [if_neg (fun q => c2 q.2)]
        rw [f_X7_nextGreedy_4]
        simp (disch := omega) only [gd_t, bd_s, nm_W, nm_I, I_add, I_sub, I_mul, I_neg, I_le_t, I_le_f, I_lt_t, I_lt_f, I_eq_t, I_eq_f, I_inb', I_ix', Int.toNat_natCast, decide_true, decide_false, Bool.not_false, Bool.not_true, if_true, if_false, wi_eq, wi_eq', wi_ne, wi_row, wi_2, N0, N1, N2, N3, N4, N5, N6, N7, N8, N9, N10, N11, N12, N13, N14, N15, N16, N17, N18, N19, N20, N21, N22, N23, N24, N25, N26, N27, N28, N29, N30, N31, N32, N33, N34, N35, N36, N37, N38, N39, N40, N41, N42, N43, N45, N48, N57, N59, N88, N89, N97, N99, N120, N121, N122, N179, N200, N255, N300, N400, N880, N900, N999, N1019, N50000000, N100000000, N1000000000, N2147483647, N2147483648, h.1, rLot h hd hvV, ha v hvV, rDepth h hd hvV hp hl, f_X7_nextGreedy_74, f_X7_nextGreedy_76]
        exact ih _ hb
    · rw [if_neg (fun q => c1 q.1)]
      rw [f_X7_nextGreedy_4]
      simp (disch := omega) only [gd_t, bd_s, nm_W, nm_I, I_add, I_sub, I_mul, I_neg, I_le_t, I_le_f, I_lt_t, I_lt_f, I_eq_t, I_eq_f, I_inb', I_ix', Int.toNat_natCast, decide_true, decide_false, Bool.not_false, Bool.not_true, if_true, if_false, wi_eq, wi_eq', wi_ne, wi_row, wi_2, N0, N1, N2, N3, N4, N5, N6, N7, N8, N9, N10, N11, N12, N13, N14, N15, N16, N17, N18, N19, N20, N21, N22, N23, N24, N25, N26, N27, N28, N29, N30, N31, N32, N33, N34, N35, N36, N37, N38, N39, N40, N41, N42, N43, N45, N48, N57, N59, N88, N89, N97, N99, N120, N121, N122, N179, N200, N255, N300, N400, N880, N900, N999, N1019, N50000000, N100000000, N1000000000, N2147483647, N2147483648, h.1, rLot h hd hvV, ha v hvV, rDepth h hd hvV hp hl, f_X7_nextGreedy_74, f_X7_nextGreedy_76]
      exact ih _ hb
theorem rGs {σ : Wd} {V q : Nat} {p left : Int} {d : MD} {a : Nat → Nat} (h : RV σ V d) (hd : MDok d V) (hp : R p) (hl : σ.1 102 12 = I p) (hg : GB d a V left q) (ha : ∀ v, v < V → σ.1 118 v = I (gn d a v)) :
    f_X7_nextGreedy (I left) σ = some (I (gs d p left a V 0 (-1)), σ) := by
  have h5 := hd.1
  have e := r_gs h hd hp hl hg ha V 0 FU (-1) 0 rfl (by show _ < 6000; omega) (by omega) (Or.inl rfl)
  unfold f_X7_nextGreedy
  rw [show (-1 : Int32) = I (-1) from rfl, show (0 : Int32) = I 0 from rfl]
  exact e
def bump (a : Nat → Nat) (v : Nat) : Nat → Nat := fun w => if w = v then a w + 1 else a w
def gr (d : MD) (p : Int) (V : Nat) : Nat → (Nat → Nat) → Int → (Nat → Nat) × Int
  | 0, a, left => (a, left)
  | n + 1, a, left => if gs d p left a V 0 (-1) = -1 then (a, left) else gr d p V n (bump a (gs d p left a V 0 (-1)).toNat) (left - d.lo (gs d p left a V 0 (-1)).toNat)
theorem gn_bump {d : MD} {a : Nat → Nat} {v : Nat} (h : 0 ≤ d.lo v) : gn d (bump a v) v = gn d a v + d.lo v := by
  unfold gn bump
  rw [if_pos rfl, Nat.succ_mul]
  omega
theorem gn_bump_ne {d : MD} {a : Nat → Nat} {v w : Nat} (h : w ≠ v) : gn d (bump a v) w = gn d a w := by
  unfold gn bump
  rw [if_neg h]
theorem GB_bump {d : MD} {a : Nat → Nat} {V v : Nat} {left : Int} {q : Nat} (hd : MDok d V) (hv : v < V) (hg : GB d a V left q) (hl : d.lo v ≤ left) : GB d (bump a v) V (left - d.lo v) q := by
  obtain ⟨-, lb, -⟩ := hd.2 v hv
  refine ⟨by omega, hg.2.1, fun w hw => ?_⟩
  have := hg.2.2 w hw
  by_cases c : w = v
  · subst c
    rw [gn_bump (by omega)]
    omega
  · rw [gn_bump_ne c]
    omega
/-- what r venues from v on cost -/
def sc (d : MD) (a : Nat → Nat) : Nat → Nat → Int
  | 0, _ => 0
  | r + 1, v => cst d v (gn d a v) + sc d a r (v + 1)
theorem sc_ne {d : MD} {a : Nat → Nat} {w : Nat} : ∀ (r v : Nat), w < v → sc d (bump a w) r v = sc d a r v
  | 0, _, _ => rfl
  | r + 1, v, h => by
    unfold sc
    rw [sc_ne r (v + 1) (by omega), gn_bump_ne (by omega)]
theorem sc_bump {d : MD} {a : Nat → Nat} {w : Nat} (hl : 0 ≤ d.lo w) : ∀ (r v : Nat), v ≤ w → w < v + r → sc d (bump a w) r v = sc d a r v + nx d a w
  | 0, v, h1, h2 => absurd h2 (by omega)
  | r + 1, v, h1, h2 => by
    unfold sc
    by_cases c : w = v
    · subst c
      rw [sc_ne r (w + 1) (by omega), gn_bump hl]
      unfold nx
      omega
    · rw [sc_bump hl r (v + 1) (by omega) (by omega), gn_bump_ne (by omega)]
      omega
def ub (d : MD) (a : Nat → Nat) : Nat → Nat → Int32 → Int32
  | 0, _, x => x
  | r + 1, v, x => ub d a r (v + 1) (if gn d a v ≤ 0 then x else x ||| ((1 : Int32) <<< (I (v : Int) &&& 31)))
theorem r_gend {σ : Wd} {V q : Nat} {left what : Int} {d : MD} {a : Nat → Nat} (h : RV σ V d) (hd : MDok d V) (hw : 0 ≤ what ∧ what ≤ 2) (hg : GB d a V left q) (ha : ∀ v, v < V → σ.1 118 v = I (gn d a v)) :
    ∀ (r v n : Nat) (c z : Int) (x : Int32), z = (v : Int) → r < n → v + r = V →
      f_X7_greedy_114 n (I (q : Int)) (I what) (I left) (I c) x (I z) σ = f_X7_greedy_190 (if what = 0 then I (c + sc d a r v) else if what = 1 then I ((q : Int) - left) else ub d a r v x) σ
  | 0, v, n + 1, c, z, x, hz, _, hv => by
    have h5 := hd.1
    rw [f_X7_greedy_114]
    by_cases c1 : what = 0
    · simp (disch := omega) only [gd_t, bd_s, nm_W, nm_I, I_add, I_sub, I_mul, I_neg, I_le_t, I_le_f, I_lt_t, I_lt_f, I_eq_t, I_eq_f, I_inb', I_ix', Int.toNat_natCast, decide_true, decide_false, Bool.not_false, Bool.not_true, if_true, if_false, wi_eq, wi_eq', wi_ne, wi_row, wi_2, N0, N1, N2, N3, N4, N5, N6, N7, N8, N9, N10, N11, N12, N13, N14, N15, N16, N17, N18, N19, N20, N21, N22, N23, N24, N25, N26, N27, N28, N29, N30, N31, N32, N33, N34, N35, N36, N37, N38, N39, N40, N41, N42, N43, N45, N48, N57, N59, N88, N89, N97, N99, N120, N121, N122, N179, N200, N255, N300, N400, N880, N900, N999, N1019, N50000000, N100000000, N1000000000, N2147483647, N2147483648, h.1]
      rw [if_pos c1, sc, Int.add_zero]
    · by_cases c2 : what = 1
      · simp (disch := omega) only [gd_t, bd_s, nm_W, nm_I, I_add, I_sub, I_mul, I_neg, I_le_t, I_le_f, I_lt_t, I_lt_f, I_eq_t, I_eq_f, I_inb', I_ix', Int.toNat_natCast, decide_true, decide_false, Bool.not_false, Bool.not_true, if_true, if_false, wi_eq, wi_eq', wi_ne, wi_row, wi_2, N0, N1, N2, N3, N4, N5, N6, N7, N8, N9, N10, N11, N12, N13, N14, N15, N16, N17, N18, N19, N20, N21, N22, N23, N24, N25, N26, N27, N28, N29, N30, N31, N32, N33, N34, N35, N36, N37, N38, N39, N40, N41, N42, N43, N45, N48, N57, N59, N88, N89, N97, N99, N120, N121, N122, N179, N200, N255, N300, N400, N880, N900, N999, N1019, N50000000, N100000000, N1000000000, N2147483647, N2147483648, h.1]
        rw [if_neg c1, if_pos c2]
      · simp (disch := omega) only [gd_t, bd_s, nm_W, nm_I, I_add, I_sub, I_mul, I_neg, I_le_t, I_le_f, I_lt_t, I_lt_f, I_eq_t, I_eq_f, I_inb', I_ix', Int.toNat_natCast, decide_true, decide_false, Bool.not_false, Bool.not_true, if_true, if_false, wi_eq, wi_eq', wi_ne, wi_row, wi_2, N0, N1, N2, N3, N4, N5, N6, N7, N8, N9, N10, N11, N12, N13, N14, N15, N16, N17, N18, N19, N20, N21, N22, N23, N24, N25, N26, N27, N28, N29, N30, N31, N32, N33, N34, N35, N36, N37, N38, N39, N40, N41, N42, N43, N45, N48, N57, N59, N88, N89, N97, N99, N120, N121, N122, N179, N200, N255, N300, N400, N880, N900, N999, N1019, N50000000, N100000000, N1000000000, N2147483647, N2147483648, h.1]
        rw [if_neg c1, if_neg c2]
        rfl
  | r + 1, v, n + 1, c, z, x, hz, hn, hv => by
    subst hz
    have h5 := hd.1
    have hvV : v < V := by omega
    have g0 := gn_nn (d := d) (a := a) (v := v)
    have g1 := hg.2.2 v hvV
    have g2 := hg.2.1
    have g3 := hg.1
    have ec := rCost h hd hvV (n := gn d a v) (by omega) (by omega)
    have ih := fun x => r_gend h hd hw hg ha r (v + 1) n (c + cst d v (gn d a v)) ((v : Int) + 1) x (by omega) (by omega) (by omega)
    rw [sc, ← Int.add_assoc, ub]
    by_cases c1 : gn d a v ≤ 0
    · rw [if_pos c1, ← ih, f_X7_greedy_114]
      simp (disch := omega) only [gd_t, bd_s, nm_W, nm_I, I_add, I_sub, I_mul, I_neg, I_le_t, I_le_f, I_lt_t, I_lt_f, I_eq_t, I_eq_f, I_inb', I_ix', Int.toNat_natCast, decide_true, decide_false, Bool.not_false, Bool.not_true, if_true, if_false, wi_eq, wi_eq', wi_ne, wi_row, wi_2, N0, N1, N2, N3, N4, N5, N6, N7, N8, N9, N10, N11, N12, N13, N14, N15, N16, N17, N18, N19, N20, N21, N22, N23, N24, N25, N26, N27, N28, N29, N30, N31, N32, N33, N34, N35, N36, N37, N38, N39, N40, N41, N42, N43, N45, N48, N57, N59, N88, N89, N97, N99, N120, N121, N122, N179, N200, N255, N300, N400, N880, N900, N999, N1019, N50000000, N100000000, N1000000000, N2147483647, N2147483648, h.1, ha v hvV, ec, f_X7_greedy_160]
    · rw [if_neg c1, ← ih, f_X7_greedy_114]
      simp (disch := omega) only [gd_t, bd_s, nm_W, nm_I, I_add, I_sub, I_mul, I_neg, I_le_t, I_le_f, I_lt_t, I_lt_f, I_eq_t, I_eq_f, I_inb', I_ix', Int.toNat_natCast, decide_true, decide_false, Bool.not_false, Bool.not_true, if_true, if_false, wi_eq, wi_eq', wi_ne, wi_row, wi_2, N0, N1, N2, N3, N4, N5, N6, N7, N8, N9, N10, N11, N12, N13, N14, N15, N16, N17, N18, N19, N20, N21, N22, N23, N24, N25, N26, N27, N28, N29, N30, N31, N32, N33, N34, N35, N36, N37, N38, N39, N40, N41, N42, N43, N45, N48, N57, N59, N88, N89, N97, N99, N120, N121, N122, N179, N200, N255, N300, N400, N880, N900, N999, N1019, N50000000, N100000000, N1000000000, N2147483647, N2147483648, h.1, ha v hvV, ec, f_X7_greedy_160]
theorem r_gr {V q : Nat} {p what : Int} {d : MD} (hd : MDok d V) (hp : R p) (hw : 0 ≤ what ∧ what ≤ 2) :
    ∀ (r n : Nat) (left : Int) (a : Nat → Nat) (σ : Wd), r < n → left ≤ (r : Int) → RV σ V d → σ.1 102 12 = I p → GB d a V left q → (∀ v, v < V → σ.1 118 v = I (gn d a v)) →
      ∃ σ', f_X7_greedy_61 n (I (q : Int)) (I what) (I left) (I (gs d p left a V 0 (-1))) σ = f_X7_greedy_190 (if what = 0 then I (sc d (gr d p V r a left).1 V 0) else if what = 1 then I ((q : Int) - (gr d p V r a left).2) else ub d (gr d p V r a left).1 V 0 0) σ'
        ∧ (∀ k, k ≠ 118 → σ'.1 k = σ.1 k) ∧ σ'.2 = σ.2
  | r, 0, left, a, σ, hn, hr, h, hl, hg, ha => absurd hn (by omega)
  | r, n + 1, left, a, σ, hn, hr, h, hl, hg, ha => by
    have h5 := hd.1
    have fin : gs d p left a V 0 (-1) = -1 → gr d p V r a left = (a, left) → ∃ σ', f_X7_greedy_61 (n + 1) (I (q : Int)) (I what) (I left) (I (gs d p left a V 0 (-1))) σ = f_X7_greedy_190 (if what = 0 then I (sc d (gr d p V r a left).1 V 0) else if what = 1 then I ((q : Int) - (gr d p V r a left).2) else ub d (gr d p V r a left).1 V 0 0) σ'
        ∧ (∀ k, k ≠ 118 → σ'.1 k = σ.1 k) ∧ σ'.2 = σ.2 := by
      intro e1 e2
      refine ⟨σ, ?_, fun _ _ => rfl, rfl⟩
      have e := r_gend h hd hw hg ha V 0 FU 0 0 0 rfl (by show _ < 6000; omega) (by omega)
      rw [Int.zero_add] at e
      rw [e2, ← e, f_X7_greedy_61, e1]
      simp (disch := omega) only [gd_t, bd_s, nm_W, nm_I, I_add, I_sub, I_mul, I_neg, I_le_t, I_le_f, I_lt_t, I_lt_f, I_eq_t, I_eq_f, I_inb', I_ix', Int.toNat_natCast, decide_true, decide_false, Bool.not_false, Bool.not_true, if_true, if_false, wi_eq, wi_eq', wi_ne, wi_row, wi_2, N0, N1, N2, N3, N4, N5, N6, N7, N8, N9, N10, N11, N12, N13, N14, N15, N16, N17, N18, N19, N20, N21, N22, N23, N24, N25, N26, N27, N28, N29, N30, N31, N32, N33, N34, N35, N36, N37, N38, N39, N40, N41, N42, N43, N45, N48, N57, N59, N88, N89, N97, N99, N120, N121, N122, N179, N200, N255, N300, N400, N880, N900, N999, N1019, N50000000, N100000000, N1000000000, N2147483647, N2147483648]
    by_cases c1 : gs d p left a V 0 (-1) = -1
    · refine fin c1 ?_
      cases r with
      | zero => rfl
      | succ r => rw [gr, if_pos c1]
    · cases r with
      | zero => exact absurd (gs_no hd (by omega) V 0 (by omega)) c1
      | succ r =>
        rcases gs_ok (d := d) (p := p) (left := left) (a := a) (V := V) V 0 (-1) (by omega) (Or.inl rfl) with hb | ⟨b1, b2, b3, b4⟩
        · exact absurd hb c1
        · rw [gr, if_neg c1]
          obtain ⟨w, ew⟩ := Int.eq_ofNat_of_zero_le b1
          rw [ew] at b2 b3 b4 ⊢
          rw [Int.toNat_natCast] at b3 b4 ⊢
          have hw' : w < V := by omega
          obtain ⟨-, lw, -⟩ := hd.2 w hw'
          have h' : RV (wi σ 118 w (I (gn d a w + d.lo w))) V d := RV_congr h (by rw [wi_row (by decide)]) (wi_row (by decide)) (wi_row (by decide)) (wi_row (by decide))
          have hl' : (wi σ 118 w (I (gn d a w + d.lo w))).1 102 12 = I p := by rw [wi_row (by decide)]; exact hl
          have hg' := GB_bump hd hw' hg b3
          have ha' : ∀ v, v < V → (wi σ 118 w (I (gn d a w + d.lo w))).1 118 v = I (gn d (bump a w) v) := by
            intro v hv
            by_cases c : v = w
            · subst c
              rw [wi_eq, gn_bump (by omega)]
            · rw [wi_ne c, gn_bump_ne c]
              exact ha v hv
          obtain ⟨σ', q1, q2, q3⟩ := r_gr hd hp hw r n (left - d.lo w) (bump a w) (wi σ 118 w (I (gn d a w + d.lo w))) (by omega) (by omega) h' hl' hg' ha'
          refine ⟨σ', ?_, fun k hk => by rw [q2 k hk, wi_row hk], by rw [q3, wi_2]⟩
          have e1 := rGs h' hd hp hl' hg' ha'
          rw [← q1, f_X7_greedy_61]
          simp (disch := omega) only [gd_t, bd_s, nm_W, nm_I, I_add, I_sub, I_mul, I_neg, I_le_t, I_le_f, I_lt_t, I_lt_f, I_eq_t, I_eq_f, I_inb', I_ix', Int.toNat_natCast, decide_true, decide_false, Bool.not_false, Bool.not_true, if_true, if_false, wi_eq, wi_eq', wi_ne, wi_row, wi_2, N0, N1, N2, N3, N4, N5, N6, N7, N8, N9, N10, N11, N12, N13, N14, N15, N16, N17, N18, N19, N20, N21, N22, N23, N24, N25, N26, N27, N28, N29, N30, N31, N32, N33, N34, N35, N36, N37, N38, N39, N40, N41, N42, N43, N45, N48, N57, N59, N88, N89, N97, N99, N120, N121, N122, N179, N200, N255, N300, N400, N880, N900, N999, N1019, N50000000, N100000000, N1000000000, N2147483647, N2147483648, rLot h hd hw', ha w hw', rLot h' hd hw', e1]
