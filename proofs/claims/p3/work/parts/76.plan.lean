/-! PURE: the plan -/
def PB (pl : Nat → Int) (V : Nat) : Prop := ∀ v, v < V → 0 ≤ pl v ∧ pl v ≤ 120
def pu (pl : Nat → Int) : Nat → Nat → Int
  | 0, _ => 0
  | r + 1, v => pl v + pu pl r (v + 1)
def pc (d : MD) (pl : Nat → Int) : Nat → Nat → Int
  | 0, _ => 0
  | r + 1, v => cst d v (pl v) + pc d pl r (v + 1)
def ps (d : MD) (p w : Int) (pl : Nat → Int) (V : Nat) : Nat → Nat → Bool
  | 0, _ => decide (pu pl V 0 ≤ w)
  | r + 1, v => if pl v ≤ dep d p v then ps d p w pl V r (v + 1) else false
theorem pu_bnd {pl : Nat → Int} {V : Nat} (h : PB pl V) : ∀ (r v : Nat), v + r ≤ V → 0 ≤ pu pl r v ∧ pu pl r v ≤ 120 * (r : Int)
  | 0, _, _ => ⟨Int.le_refl _, Int.le_refl _⟩
  | r + 1, v, hv => by
    have := pu_bnd h r (v + 1) (by omega)
    have := h v (by omega)
    unfold pu
    omega
theorem c_pu {m : Nat} {σ : Wd} {V : Nat} {pl : Nat → Int} (h3 : σ.1 m 3 = I (V : Int)) (hV : V ≤ 5) (hp : ∀ v, v < V → σ.1 (m + 7) v = I (pl v)) :
    ∀ (r v n : Nat) (acc z : Int), z = (v : Int) → r < n → v + r = V → f_X3_planUnits_4 m n (I acc) (I z) σ = some (I (acc + pu pl r v), σ)
  | 0, v, n + 1, acc, z, hz, _, hv => by
    rw [f_X3_planUnits_4]
    simp (disch := omega) only [gd_t, bd_s, nm_W, nm_I, I_add, I_sub, I_mul, I_neg, I_le_t, I_le_f, I_lt_t, I_lt_f, I_eq_t, I_eq_f, I_inb', I_ix', Int.toNat_natCast, decide_true, decide_false, Bool.not_false, Bool.not_true, if_true, if_false, wi_eq, wi_eq', wi_ne, wi_row, wi_2, N0, N1, N2, N3, N4, N5, N6, N7, N8, N9, N10, N11, N12, N13, N14, N15, N16, N17, N18, N19, N20, N21, N22, N23, N24, N25, N26, N27, N28, N29, N30, N31, N32, N33, N34, N35, N36, N37, N38, N39, N40, N41, N42, N43, N45, N48, N57, N59, N88, N89, N97, N99, N120, N121, N122, N179, N200, N255, N300, N400, N880, N900, N999, N1019, N50000000, N100000000, N1000000000, N2147483647, N2147483648, h3, pu]
    rw [Int.add_zero]
  | r + 1, v, n + 1, acc, z, hz, hn, hv => by
    subst hz
    rw [f_X3_planUnits_4, pu]
    simp (disch := omega) only [gd_t, bd_s, nm_W, nm_I, I_add, I_sub, I_mul, I_neg, I_le_t, I_le_f, I_lt_t, I_lt_f, I_eq_t, I_eq_f, I_inb', I_ix', Int.toNat_natCast, decide_true, decide_false, Bool.not_false, Bool.not_true, if_true, if_false, wi_eq, wi_eq', wi_ne, wi_row, wi_2, N0, N1, N2, N3, N4, N5, N6, N7, N8, N9, N10, N11, N12, N13, N14, N15, N16, N17, N18, N19, N20, N21, N22, N23, N24, N25, N26, N27, N28, N29, N30, N31, N32, N33, N34, N35, N36, N37, N38, N39, N40, N41, N42, N43, N45, N48, N57, N59, N88, N89, N97, N99, N120, N121, N122, N179, N200, N255, N300, N400, N880, N900, N999, N1019, N50000000, N100000000, N1000000000, N2147483647, N2147483648, h3, hp v (by omega)]
    rw [c_pu h3 hV hp r (v + 1) n _ _ (by omega) (by omega) (by omega), Int.add_assoc]
theorem cPU {m : Nat} {σ : Wd} {V : Nat} {pl : Nat → Int} (h3 : σ.1 m 3 = I (V : Int)) (hV : V ≤ 5) (hp : ∀ v, v < V → σ.1 (m + 7) v = I (pl v)) : f_X3_planUnits m σ = some (I (pu pl V 0), σ) := by
  have e := c_pu h3 hV hp V 0 FU 0 0 rfl (by show _ < 6000; omega) (by omega)
  rw [Int.zero_add] at e
  exact e
theorem r_pu {σ : Wd} {V : Nat} {pl : Nat → Int} (h3 : σ.1 102 14 = I (V : Int)) (hV : V ≤ 5) (hp : ∀ v, v < V → σ.1 112 (43 + v) = I (pl v)) :
    ∀ (r v n : Nat) (acc z : Int), z = (v : Int) → r < n → v + r = V → f_X7_planUnits_4 n (I acc) (I z) σ = some (I (acc + pu pl r v), σ)
  | 0, v, n + 1, acc, z, hz, _, hv => by
    rw [f_X7_planUnits_4]
    simp (disch := omega) only [gd_t, bd_s, nm_W, nm_I, I_add, I_sub, I_mul, I_neg, I_le_t, I_le_f, I_lt_t, I_lt_f, I_eq_t, I_eq_f, I_inb', I_ix', Int.toNat_natCast, decide_true, decide_false, Bool.not_false, Bool.not_true, if_true, if_false, wi_eq, wi_eq', wi_ne, wi_row, wi_2, N0, N1, N2, N3, N4, N5, N6, N7, N8, N9, N10, N11, N12, N13, N14, N15, N16, N17, N18, N19, N20, N21, N22, N23, N24, N25, N26, N27, N28, N29, N30, N31, N32, N33, N34, N35, N36, N37, N38, N39, N40, N41, N42, N43, N45, N48, N57, N59, N88, N89, N97, N99, N120, N121, N122, N179, N200, N255, N300, N400, N880, N900, N999, N1019, N50000000, N100000000, N1000000000, N2147483647, N2147483648, h3, pu]
    rw [Int.add_zero]
  | r + 1, v, n + 1, acc, z, hz, hn, hv => by
    subst hz
    have t1 : ((43 : Int) + (v : Int)).toNat = 43 + v := by omega
    rw [f_X7_planUnits_4, pu]
    simp (disch := omega) only [gd_t, bd_s, nm_W, nm_I, I_add, I_sub, I_mul, I_neg, I_le_t, I_le_f, I_lt_t, I_lt_f, I_eq_t, I_eq_f, I_inb', I_ix', Int.toNat_natCast, decide_true, decide_false, Bool.not_false, Bool.not_true, if_true, if_false, wi_eq, wi_eq', wi_ne, wi_row, wi_2, N0, N1, N2, N3, N4, N5, N6, N7, N8, N9, N10, N11, N12, N13, N14, N15, N16, N17, N18, N19, N20, N21, N22, N23, N24, N25, N26, N27, N28, N29, N30, N31, N32, N33, N34, N35, N36, N37, N38, N39, N40, N41, N42, N43, N45, N48, N57, N59, N88, N89, N97, N99, N120, N121, N122, N179, N200, N255, N300, N400, N880, N900, N999, N1019, N50000000, N100000000, N1000000000, N2147483647, N2147483648, h3, t1, hp v (by omega)]
    rw [r_pu h3 hV hp r (v + 1) n _ _ (by omega) (by omega) (by omega), Int.add_assoc]
theorem rPU {σ : Wd} {V : Nat} {pl : Nat → Int} (h3 : σ.1 102 14 = I (V : Int)) (hV : V ≤ 5) (hp : ∀ v, v < V → σ.1 112 (43 + v) = I (pl v)) : f_X7_planUnits σ = some (I (pu pl V 0), σ) := by
  have e := r_pu h3 hV hp V 0 FU 0 0 rfl (by show _ < 6000; omega) (by omega)
  rw [Int.zero_add] at e
  exact e
theorem c_pc {m : Nat} {σ : Wd} {V : Nat} {d : MD} {pl : Nat → Int} (h : CV m σ V d) (hd : MDok d V) (hb : PB pl V) (hp : ∀ v, v < V → σ.1 (m + 7) v = I (pl v)) :
    ∀ (r v n : Nat) (acc z : Int), z = (v : Int) → r < n → v + r = V → f_X3_planCost_4 m n (I acc) (I z) σ = some (I (acc + pc d pl r v), σ)
  | 0, v, n + 1, acc, z, hz, _, hv => by
    have h5 := hd.1
    rw [f_X3_planCost_4]
    simp (disch := omega) only [gd_t, bd_s, nm_W, nm_I, I_add, I_sub, I_mul, I_neg, I_le_t, I_le_f, I_lt_t, I_lt_f, I_eq_t, I_eq_f, I_inb', I_ix', Int.toNat_natCast, decide_true, decide_false, Bool.not_false, Bool.not_true, if_true, if_false, wi_eq, wi_eq', wi_ne, wi_row, wi_2, N0, N1, N2, N3, N4, N5, N6, N7, N8, N9, N10, N11, N12, N13, N14, N15, N16, N17, N18, N19, N20, N21, N22, N23, N24, N25, N26, N27, N28, N29, N30, N31, N32, N33, N34, N35, N36, N37, N38, N39, N40, N41, N42, N43, N45, N48, N57, N59, N88, N89, N97, N99, N120, N121, N122, N179, N200, N255, N300, N400, N880, N900, N999, N1019, N50000000, N100000000, N1000000000, N2147483647, N2147483648, h.1, pc]
    rw [Int.add_zero]
  | r + 1, v, n + 1, acc, z, hz, hn, hv => by
    subst hz
    have h5 := hd.1
    have hvV : v < V := by omega
    have b := hb v hvV
    rw [f_X3_planCost_4, pc]
    simp (disch := omega) only [gd_t, bd_s, nm_W, nm_I, I_add, I_sub, I_mul, I_neg, I_le_t, I_le_f, I_lt_t, I_lt_f, I_eq_t, I_eq_f, I_inb', I_ix', Int.toNat_natCast, decide_true, decide_false, Bool.not_false, Bool.not_true, if_true, if_false, wi_eq, wi_eq', wi_ne, wi_row, wi_2, N0, N1, N2, N3, N4, N5, N6, N7, N8, N9, N10, N11, N12, N13, N14, N15, N16, N17, N18, N19, N20, N21, N22, N23, N24, N25, N26, N27, N28, N29, N30, N31, N32, N33, N34, N35, N36, N37, N38, N39, N40, N41, N42, N43, N45, N48, N57, N59, N88, N89, N97, N99, N120, N121, N122, N179, N200, N255, N300, N400, N880, N900, N999, N1019, N50000000, N100000000, N1000000000, N2147483647, N2147483648, h.1, hp v hvV, cCost h hd hvV (n := pl v) (by omega) (by omega)]
    rw [c_pc h hd hb hp r (v + 1) n _ _ (by omega) (by omega) (by omega), Int.add_assoc]
theorem cPC {m : Nat} {σ : Wd} {V : Nat} {d : MD} {pl : Nat → Int} (h : CV m σ V d) (hd : MDok d V) (hb : PB pl V) (hp : ∀ v, v < V → σ.1 (m + 7) v = I (pl v)) : f_X3_planCost m σ = some (I (pc d pl V 0), σ) := by
  have h5 := hd.1
  have e := c_pc h hd hb hp V 0 FU 0 0 rfl (by show _ < 6000; omega) (by omega)
  rw [Int.zero_add] at e
  exact e
theorem r_pc {σ : Wd} {V : Nat} {d : MD} {pl : Nat → Int} (h : RV σ V d) (hd : MDok d V) (hb : PB pl V) (hp : ∀ v, v < V → σ.1 112 (43 + v) = I (pl v)) :
    ∀ (r v n : Nat) (acc z : Int), z = (v : Int) → r < n → v + r = V → f_X7_planCost_4 n (I acc) (I z) σ = some (I (acc + pc d pl r v), σ)
  | 0, v, n + 1, acc, z, hz, _, hv => by
    have h5 := hd.1
    rw [f_X7_planCost_4]
    simp (disch := omega) only [gd_t, bd_s, nm_W, nm_I, I_add, I_sub, I_mul, I_neg, I_le_t, I_le_f, I_lt_t, I_lt_f, I_eq_t, I_eq_f, I_inb', I_ix', Int.toNat_natCast, decide_true, decide_false, Bool.not_false, Bool.not_true, if_true, if_false, wi_eq, wi_eq', wi_ne, wi_row, wi_2, N0, N1, N2, N3, N4, N5, N6, N7, N8, N9, N10, N11, N12, N13, N14, N15, N16, N17, N18, N19, N20, N21, N22, N23, N24, N25, N26, N27, N28, N29, N30, N31, N32, N33, N34, N35, N36, N37, N38, N39, N40, N41, N42, N43, N45, N48, N57, N59, N88, N89, N97, N99, N120, N121, N122, N179, N200, N255, N300, N400, N880, N900, N999, N1019, N50000000, N100000000, N1000000000, N2147483647, N2147483648, h.1, pc]
    rw [Int.add_zero]
  | r + 1, v, n + 1, acc, z, hz, hn, hv => by
    subst hz
    have h5 := hd.1
    have hvV : v < V := by omega
    have b := hb v hvV
    have t1 : ((43 : Int) + (v : Int)).toNat = 43 + v := by omega
    rw [f_X7_planCost_4, pc]
    simp (disch := omega) only [gd_t, bd_s, nm_W, nm_I, I_add, I_sub, I_mul, I_neg, I_le_t, I_le_f, I_lt_t, I_lt_f, I_eq_t, I_eq_f, I_inb', I_ix', Int.toNat_natCast, decide_true, decide_false, Bool.not_false, Bool.not_true, if_true, if_false, wi_eq, wi_eq', wi_ne, wi_row, wi_2, N0, N1, N2, N3, N4, N5, N6, N7, N8, N9, N10, N11, N12, N13, N14, N15, N16, N17, N18, N19, N20, N21, N22, N23, N24, N25, N26, N27, N28, N29, N30, N31, N32, N33, N34, N35, N36, N37, N38, N39, N40, N41, N42, N43, N45, N48, N57, N59, N88, N89, N97, N99, N120, N121, N122, N179, N200, N255, N300, N400, N880, N900, N999, N1019, N50000000, N100000000, N1000000000, N2147483647, N2147483648, h.1, t1, hp v hvV, rCost h hd hvV (n := pl v) (by omega) (by omega)]
    rw [r_pc h hd hb hp r (v + 1) n _ _ (by omega) (by omega) (by omega), Int.add_assoc]
theorem rPC {σ : Wd} {V : Nat} {d : MD} {pl : Nat → Int} (h : RV σ V d) (hd : MDok d V) (hb : PB pl V) (hp : ∀ v, v < V → σ.1 112 (43 + v) = I (pl v)) : f_X7_planCost σ = some (I (pc d pl V 0), σ) := by
  have h5 := hd.1
  have e := r_pc h hd hb hp V 0 FU 0 0 rfl (by show _ < 6000; omega) (by omega)
  rw [Int.zero_add] at e
  exact e
theorem bn_t : bn true = 1 := rfl
theorem bn_f : bn false = 0 := rfl
theorem isb_b (b : Bool) : isb (I (bn b)) = true := by cases b <;> rfl
theorem isb_1 : isb (I 1) = true := rfl
theorem isb_0 : isb (I 0) = true := rfl
theorem c_ps {m : Nat} {σ : Wd} {V : Nat} {d : MD} {p w : Int} {pl : Nat → Int} (h : CV m σ V d) (hd : MDok d V) (hp : R p) (hl : σ.1 m 1 = I p) (hw : σ.1 m 0 = I w) (hw2 : R w) (hb : PB pl V) (hpl : ∀ v, v < V → σ.1 (m + 7) v = I (pl v)) :
    ∀ (r v n : Nat) (z : Int), z = (v : Int) → r < n → v + r = V → f_X3_planStands_2 m n (I z) σ = some (I (bn (ps d p w pl V r v)), σ)
  | 0, v, n + 1, z, hz, _, hv => by
    have h5 := hd.1
    have pb := pu_bnd hb V 0 (by omega)
    have e := cPU h.1 h5 hpl
    unfold R at hw2
    rw [f_X3_planStands_2, ps]
    by_cases c : pu pl V 0 ≤ w
    · rw [decide_eq_true c]
      simp (disch := omega) only [gd_t, bd_s, nm_W, nm_I, I_add, I_sub, I_mul, I_neg, I_le_t, I_le_f, I_lt_t, I_lt_f, I_eq_t, I_eq_f, I_inb', I_ix', Int.toNat_natCast, decide_true, decide_false, Bool.not_false, Bool.not_true, if_true, if_false, wi_eq, wi_eq', wi_ne, wi_row, wi_2, N0, N1, N2, N3, N4, N5, N6, N7, N8, N9, N10, N11, N12, N13, N14, N15, N16, N17, N18, N19, N20, N21, N22, N23, N24, N25, N26, N27, N28, N29, N30, N31, N32, N33, N34, N35, N36, N37, N38, N39, N40, N41, N42, N43, N45, N48, N57, N59, N88, N89, N97, N99, N120, N121, N122, N179, N200, N255, N300, N400, N880, N900, N999, N1019, N50000000, N100000000, N1000000000, N2147483647, N2147483648, h.1, e, hw, f_X3_planStands_48, bn_t, isb_1]
    · rw [decide_eq_false c]
      simp (disch := omega) only [gd_t, bd_s, nm_W, nm_I, I_add, I_sub, I_mul, I_neg, I_le_t, I_le_f, I_lt_t, I_lt_f, I_eq_t, I_eq_f, I_inb', I_ix', Int.toNat_natCast, decide_true, decide_false, Bool.not_false, Bool.not_true, if_true, if_false, wi_eq, wi_eq', wi_ne, wi_row, wi_2, N0, N1, N2, N3, N4, N5, N6, N7, N8, N9, N10, N11, N12, N13, N14, N15, N16, N17, N18, N19, N20, N21, N22, N23, N24, N25, N26, N27, N28, N29, N30, N31, N32, N33, N34, N35, N36, N37, N38, N39, N40, N41, N42, N43, N45, N48, N57, N59, N88, N89, N97, N99, N120, N121, N122, N179, N200, N255, N300, N400, N880, N900, N999, N1019, N50000000, N100000000, N1000000000, N2147483647, N2147483648, h.1, e, hw, f_X3_planStands_48, bn_f, isb_0]
  | r + 1, v, n + 1, z, hz, hn, hv => by
    subst hz
    have h5 := hd.1
    have hvV : v < V := by omega
    have b := hb v hvV
    have db := dep_bnd (p := p) hd hvV
    rw [ps]
    by_cases c : pl v ≤ dep d p v
    · rw [if_pos c, f_X3_planStands_2]
      simp (disch := omega) only [gd_t, bd_s, nm_W, nm_I, I_add, I_sub, I_mul, I_neg, I_le_t, I_le_f, I_lt_t, I_lt_f, I_eq_t, I_eq_f, I_inb', I_ix', Int.toNat_natCast, decide_true, decide_false, Bool.not_false, Bool.not_true, if_true, if_false, wi_eq, wi_eq', wi_ne, wi_row, wi_2, N0, N1, N2, N3, N4, N5, N6, N7, N8, N9, N10, N11, N12, N13, N14, N15, N16, N17, N18, N19, N20, N21, N22, N23, N24, N25, N26, N27, N28, N29, N30, N31, N32, N33, N34, N35, N36, N37, N38, N39, N40, N41, N42, N43, N45, N48, N57, N59, N88, N89, N97, N99, N120, N121, N122, N179, N200, N255, N300, N400, N880, N900, N999, N1019, N50000000, N100000000, N1000000000, N2147483647, N2147483648, h.1, hpl v hvV, cDepth h hd hvV hp hl]
      exact c_ps h hd hp hl hw hw2 hb hpl r (v + 1) n _ (by omega) (by omega) (by omega)
    · rw [if_neg c, f_X3_planStands_2]
      simp (disch := omega) only [gd_t, bd_s, nm_W, nm_I, I_add, I_sub, I_mul, I_neg, I_le_t, I_le_f, I_lt_t, I_lt_f, I_eq_t, I_eq_f, I_inb', I_ix', Int.toNat_natCast, decide_true, decide_false, Bool.not_false, Bool.not_true, if_true, if_false, wi_eq, wi_eq', wi_ne, wi_row, wi_2, N0, N1, N2, N3, N4, N5, N6, N7, N8, N9, N10, N11, N12, N13, N14, N15, N16, N17, N18, N19, N20, N21, N22, N23, N24, N25, N26, N27, N28, N29, N30, N31, N32, N33, N34, N35, N36, N37, N38, N39, N40, N41, N42, N43, N45, N48, N57, N59, N88, N89, N97, N99, N120, N121, N122, N179, N200, N255, N300, N400, N880, N900, N999, N1019, N50000000, N100000000, N1000000000, N2147483647, N2147483648, h.1, hpl v hvV, cDepth h hd hvV hp hl, bn_f, isb_0]
theorem cPS {m : Nat} {σ : Wd} {V : Nat} {d : MD} {p w : Int} {pl : Nat → Int} (h : CV m σ V d) (hd : MDok d V) (hp : R p) (hl : σ.1 m 1 = I p) (hw : σ.1 m 0 = I w) (hw2 : R w) (hb : PB pl V) (hpl : ∀ v, v < V → σ.1 (m + 7) v = I (pl v)) : f_X3_planStands m σ = some (I (bn (ps d p w pl V V 0)), σ) := by
  have h5 := hd.1
  exact c_ps h hd hp hl hw hw2 hb hpl V 0 FU 0 rfl (by show _ < 6000; omega) (by omega)
theorem r_ps {σ : Wd} {V : Nat} {d : MD} {p w : Int} {pl : Nat → Int} (h : RV σ V d) (hd : MDok d V) (hp : R p) (hl : σ.1 102 12 = I p) (hw : σ.1 112 35 = I w) (hw2 : R w) (hb : PB pl V) (hpl : ∀ v, v < V → σ.1 112 (43 + v) = I (pl v)) :
    ∀ (r v n : Nat) (z : Int), z = (v : Int) → r < n → v + r = V → f_X7_canHavePlan_2 n (I z) σ = some (I (bn (ps d p w pl V r v)), σ)
  | 0, v, n + 1, z, hz, _, hv => by
    have h5 := hd.1
    have pb := pu_bnd hb V 0 (by omega)
    have e := rPU h.1 h5 hpl
    have t1 : Int.toNat 35 = 35 := rfl
    unfold R at hw2
    rw [f_X7_canHavePlan_2, ps]
    by_cases c : pu pl V 0 ≤ w
    · rw [decide_eq_true c]
      simp (disch := omega) only [gd_t, bd_s, nm_W, nm_I, I_add, I_sub, I_mul, I_neg, I_le_t, I_le_f, I_lt_t, I_lt_f, I_eq_t, I_eq_f, I_inb', I_ix', Int.toNat_natCast, decide_true, decide_false, Bool.not_false, Bool.not_true, if_true, if_false, wi_eq, wi_eq', wi_ne, wi_row, wi_2, N0, N1, N2, N3, N4, N5, N6, N7, N8, N9, N10, N11, N12, N13, N14, N15, N16, N17, N18, N19, N20, N21, N22, N23, N24, N25, N26, N27, N28, N29, N30, N31, N32, N33, N34, N35, N36, N37, N38, N39, N40, N41, N42, N43, N45, N48, N57, N59, N88, N89, N97, N99, N120, N121, N122, N179, N200, N255, N300, N400, N880, N900, N999, N1019, N50000000, N100000000, N1000000000, N2147483647, N2147483648, h.1, e, hw, t1, f_X7_canHavePlan_54, bn_t, isb_1]
    · rw [decide_eq_false c]
      simp (disch := omega) only [gd_t, bd_s, nm_W, nm_I, I_add, I_sub, I_mul, I_neg, I_le_t, I_le_f, I_lt_t, I_lt_f, I_eq_t, I_eq_f, I_inb', I_ix', Int.toNat_natCast, decide_true, decide_false, Bool.not_false, Bool.not_true, if_true, if_false, wi_eq, wi_eq', wi_ne, wi_row, wi_2, N0, N1, N2, N3, N4, N5, N6, N7, N8, N9, N10, N11, N12, N13, N14, N15, N16, N17, N18, N19, N20, N21, N22, N23, N24, N25, N26, N27, N28, N29, N30, N31, N32, N33, N34, N35, N36, N37, N38, N39, N40, N41, N42, N43, N45, N48, N57, N59, N88, N89, N97, N99, N120, N121, N122, N179, N200, N255, N300, N400, N880, N900, N999, N1019, N50000000, N100000000, N1000000000, N2147483647, N2147483648, h.1, e, hw, t1, f_X7_canHavePlan_54, bn_f, isb_0]
  | r + 1, v, n + 1, z, hz, hn, hv => by
    subst hz
    have h5 := hd.1
    have hvV : v < V := by omega
    have b := hb v hvV
    have db := dep_bnd (p := p) hd hvV
    have t1 : ((43 : Int) + (v : Int)).toNat = 43 + v := by omega
    rw [ps]
    by_cases c : pl v ≤ dep d p v
    · rw [if_pos c, f_X7_canHavePlan_2]
      simp (disch := omega) only [gd_t, bd_s, nm_W, nm_I, I_add, I_sub, I_mul, I_neg, I_le_t, I_le_f, I_lt_t, I_lt_f, I_eq_t, I_eq_f, I_inb', I_ix', Int.toNat_natCast, decide_true, decide_false, Bool.not_false, Bool.not_true, if_true, if_false, wi_eq, wi_eq', wi_ne, wi_row, wi_2, N0, N1, N2, N3, N4, N5, N6, N7, N8, N9, N10, N11, N12, N13, N14, N15, N16, N17, N18, N19, N20, N21, N22, N23, N24, N25, N26, N27, N28, N29, N30, N31, N32, N33, N34, N35, N36, N37, N38, N39, N40, N41, N42, N43, N45, N48, N57, N59, N88, N89, N97, N99, N120, N121, N122, N179, N200, N255, N300, N400, N880, N900, N999, N1019, N50000000, N100000000, N1000000000, N2147483647, N2147483648, h.1, t1, hpl v hvV, rDepth h hd hvV hp hl]
      exact r_ps h hd hp hl hw hw2 hb hpl r (v + 1) n _ (by omega) (by omega) (by omega)
    · rw [if_neg c, f_X7_canHavePlan_2]
      simp (disch := omega) only [gd_t, bd_s, nm_W, nm_I, I_add, I_sub, I_mul, I_neg, I_le_t, I_le_f, I_lt_t, I_lt_f, I_eq_t, I_eq_f, I_inb', I_ix', Int.toNat_natCast, decide_true, decide_false, Bool.not_false, Bool.not_true, if_true, if_false, wi_eq, wi_eq', wi_ne, wi_row, wi_2, N0, N1, N2, N3, N4, N5, N6, N7, N8, N9, N10, N11, N12, N13, N14, N15, N16, N17, N18, N19, N20, N21, N22, N23, N24, N25, N26, N27, N28, N29, N30, N31, N32, N33, N34, N35, N36, N37, N38, N39, N40, N41, N42, N43, N45, N48, N57, N59, N88, N89, N97, N99, N120, N121, N122, N179, N200, N255, N300, N400, N880, N900, N999, N1019, N50000000, N100000000, N1000000000, N2147483647, N2147483648, h.1, t1, hpl v hvV, rDepth h hd hvV hp hl, bn_f, isb_0]
theorem rPS {σ : Wd} {V : Nat} {d : MD} {p w : Int} {pl : Nat → Int} (h : RV σ V d) (hd : MDok d V) (hp : R p) (hl : σ.1 102 12 = I p) (hw : σ.1 112 35 = I w) (hw2 : R w) (hb : PB pl V) (hpl : ∀ v, v < V → σ.1 112 (43 + v) = I (pl v)) : f_X7_canHavePlan σ = some (I (bn (ps d p w pl V V 0)), σ) := by
  have h5 := hd.1
  exact r_ps h hd hp hl hw hw2 hb hpl V 0 FU 0 rfl (by show _ < 6000; omega) (by omega)
/-! a common multiple of two lots -/
def lcr (a b : Int) : Nat → Nat → Int
  | 0, t => a * (t : Int)
  | r + 1, t => if (a * (t : Int)) % b = 0 then a * (t : Int) else lcr a b r (t + 1)
theorem mul_b {a : Int} {t : Nat} (h1 : 1 ≤ a) (h2 : a ≤ 20) (h3 : t ≤ 20) : 0 ≤ a * (t : Int) ∧ a * (t : Int) ≤ 400 := by
  have h := Int.mul_le_mul h2 (show (t : Int) ≤ 20 by omega) (by omega) (by omega)
  have g := Int.mul_nonneg (show 0 ≤ a by omega) (show 0 ≤ (t : Int) by omega)
  omega
theorem lcr_b {a b : Int} (h1 : 1 ≤ a) (h2 : a ≤ 20) : ∀ (r t : Nat), t + r ≤ 20 → 0 ≤ lcr a b r t ∧ lcr a b r t ≤ 400
  | 0, t, h => mul_b h1 h2 (by omega)
  | r + 1, t, h => by
    unfold lcr
    split
    · exact mul_b h1 h2 (by omega)
    · exact lcr_b h1 h2 r (t + 1) (by omega)
theorem c_lcm {a b : Int} {σ : Wd} (h1 : 1 ≤ a) (h2 : a ≤ 20) (b1 : 1 ≤ b) (b2 : b ≤ 20) : ∀ (r t n : Nat) (z : Int), z = (t : Int) → r < n → (t : Int) + (r : Int) = b → 1 ≤ t → f_X3_leastCommonMultiple_8 n (I a) (I b) (I z) σ = some (I (lcr a b r t), σ)
  | 0, t, n + 1, z, hz, _, ht, _ => by
    rw [f_X3_leastCommonMultiple_8]
    simp (disch := omega) only [gd_t, bd_s, nm_W, nm_I, I_add, I_sub, I_mul, I_neg, I_le_t, I_le_f, I_lt_t, I_lt_f, I_eq_t, I_eq_f, I_inb', I_ix', Int.toNat_natCast, decide_true, decide_false, Bool.not_false, Bool.not_true, if_true, if_false, wi_eq, wi_eq', wi_ne, wi_row, wi_2, N0, N1, N2, N3, N4, N5, N6, N7, N8, N9, N10, N11, N12, N13, N14, N15, N16, N17, N18, N19, N20, N21, N22, N23, N24, N25, N26, N27, N28, N29, N30, N31, N32, N33, N34, N35, N36, N37, N38, N39, N40, N41, N42, N43, N45, N48, N57, N59, N88, N89, N97, N99, N120, N121, N122, N179, N200, N255, N300, N400, N880, N900, N999, N1019, N50000000, N100000000, N1000000000, N2147483647, N2147483648, lcr]
    rw [show (t : Int) = b from by omega]
  | r + 1, t, n + 1, z, hz, hn, ht, t1 => by
    subst hz
    have mb := mul_b (t := t) h1 h2 (by omega)
    have me := Int.emod_nonneg (a * (t : Int)) (show b ≠ 0 by omega)
    have ml := Int.emod_lt_of_pos (a * (t : Int)) (show 0 < b by omega)
    have em : I (a * (t : Int)) % I b = I ((a * (t : Int)) % b) := I_mod (by unfold R; omega) (by unfold R; omega) mb.1 (by omega)
    rw [lcr]
    by_cases c : (a * (t : Int)) % b = 0
    · rw [if_pos c, f_X3_leastCommonMultiple_8]
      simp (disch := omega) only [gd_t, bd_s, nm_W, nm_I, I_add, I_sub, I_mul, I_neg, I_le_t, I_le_f, I_lt_t, I_lt_f, I_eq_t, I_eq_f, I_inb', I_ix', Int.toNat_natCast, decide_true, decide_false, Bool.not_false, Bool.not_true, if_true, if_false, wi_eq, wi_eq', wi_ne, wi_row, wi_2, N0, N1, N2, N3, N4, N5, N6, N7, N8, N9, N10, N11, N12, N13, N14, N15, N16, N17, N18, N19, N20, N21, N22, N23, N24, N25, N26, N27, N28, N29, N30, N31, N32, N33, N34, N35, N36, N37, N38, N39, N40, N41, N42, N43, N45, N48, N57, N59, N88, N89, N97, N99, N120, N121, N122, N179, N200, N255, N300, N400, N880, N900, N999, N1019, N50000000, N100000000, N1000000000, N2147483647, N2147483648, em]
    · rw [if_neg c, f_X3_leastCommonMultiple_8]
      simp (disch := omega) only [gd_t, bd_s, nm_W, nm_I, I_add, I_sub, I_mul, I_neg, I_le_t, I_le_f, I_lt_t, I_lt_f, I_eq_t, I_eq_f, I_inb', I_ix', Int.toNat_natCast, decide_true, decide_false, Bool.not_false, Bool.not_true, if_true, if_false, wi_eq, wi_eq', wi_ne, wi_row, wi_2, N0, N1, N2, N3, N4, N5, N6, N7, N8, N9, N10, N11, N12, N13, N14, N15, N16, N17, N18, N19, N20, N21, N22, N23, N24, N25, N26, N27, N28, N29, N30, N31, N32, N33, N34, N35, N36, N37, N38, N39, N40, N41, N42, N43, N45, N48, N57, N59, N88, N89, N97, N99, N120, N121, N122, N179, N200, N255, N300, N400, N880, N900, N999, N1019, N50000000, N100000000, N1000000000, N2147483647, N2147483648, em]
      exact c_lcm h1 h2 b1 b2 r (t + 1) n _ (by omega) (by omega) (by omega) (by omega)
theorem r_lcm {a b : Int} {σ : Wd} (h1 : 1 ≤ a) (h2 : a ≤ 20) (b1 : 1 ≤ b) (b2 : b ≤ 20) : ∀ (r t n : Nat) (z : Int), z = a * (t : Int) → r < n → (t : Int) + (r : Int) = b → 1 ≤ t → f_X7_common_2 n (I a) (I b) (I z) σ = some (I (lcr a b r t), σ)
  | 0, t, n + 1, z, hz, _, ht, _ => by
    have mb := mul_b (t := t) h1 h2 (by omega)
    have em : I z % I b = I 0 := by
      rw [I_mod (by unfold R; omega) (by unfold R; omega) (by omega) (by omega), hz, show (t : Int) = b from by omega, Int.mul_emod_left]
    rw [f_X7_common_2]
    simp (disch := omega) only [gd_t, bd_s, nm_W, nm_I, I_add, I_sub, I_mul, I_neg, I_le_t, I_le_f, I_lt_t, I_lt_f, I_eq_t, I_eq_f, I_inb', I_ix', Int.toNat_natCast, decide_true, decide_false, Bool.not_false, Bool.not_true, if_true, if_false, wi_eq, wi_eq', wi_ne, wi_row, wi_2, N0, N1, N2, N3, N4, N5, N6, N7, N8, N9, N10, N11, N12, N13, N14, N15, N16, N17, N18, N19, N20, N21, N22, N23, N24, N25, N26, N27, N28, N29, N30, N31, N32, N33, N34, N35, N36, N37, N38, N39, N40, N41, N42, N43, N45, N48, N57, N59, N88, N89, N97, N99, N120, N121, N122, N179, N200, N255, N300, N400, N880, N900, N999, N1019, N50000000, N100000000, N1000000000, N2147483647, N2147483648, em, lcr]
    rw [hz]
  | r + 1, t, n + 1, z, hz, hn, ht, t1 => by
    have mb := mul_b (t := t) h1 h2 (by omega)
    have mb2 := mul_b (t := t + 1) h1 h2 (by omega)
    have me := Int.emod_nonneg (a * (t : Int)) (show b ≠ 0 by omega)
    have ml := Int.emod_lt_of_pos (a * (t : Int)) (show 0 < b by omega)
    have em : I z % I b = I ((a * (t : Int)) % b) := by rw [I_mod (by unfold R; omega) (by unfold R; omega) (by omega) (by omega), hz]
    rw [lcr]
    by_cases c : (a * (t : Int)) % b = 0
    · rw [if_pos c, f_X7_common_2]
      simp (disch := omega) only [gd_t, bd_s, nm_W, nm_I, I_add, I_sub, I_mul, I_neg, I_le_t, I_le_f, I_lt_t, I_lt_f, I_eq_t, I_eq_f, I_inb', I_ix', Int.toNat_natCast, decide_true, decide_false, Bool.not_false, Bool.not_true, if_true, if_false, wi_eq, wi_eq', wi_ne, wi_row, wi_2, N0, N1, N2, N3, N4, N5, N6, N7, N8, N9, N10, N11, N12, N13, N14, N15, N16, N17, N18, N19, N20, N21, N22, N23, N24, N25, N26, N27, N28, N29, N30, N31, N32, N33, N34, N35, N36, N37, N38, N39, N40, N41, N42, N43, N45, N48, N57, N59, N88, N89, N97, N99, N120, N121, N122, N179, N200, N255, N300, N400, N880, N900, N999, N1019, N50000000, N100000000, N1000000000, N2147483647, N2147483648, em]
      rw [hz]
    · rw [if_neg c, f_X7_common_2]
      simp (disch := omega) only [gd_t, bd_s, nm_W, nm_I, I_add, I_sub, I_mul, I_neg, I_le_t, I_le_f, I_lt_t, I_lt_f, I_eq_t, I_eq_f, I_inb', I_ix', Int.toNat_natCast, decide_true, decide_false, Bool.not_false, Bool.not_true, if_true, if_false, wi_eq, wi_eq', wi_ne, wi_row, wi_2, N0, N1, N2, N3, N4, N5, N6, N7, N8, N9, N10, N11, N12, N13, N14, N15, N16, N17, N18, N19, N20, N21, N22, N23, N24, N25, N26, N27, N28, N29, N30, N31, N32, N33, N34, N35, N36, N37, N38, N39, N40, N41, N42, N43, N45, N48, N57, N59, N88, N89, N97, N99, N120, N121, N122, N179, N200, N255, N300, N400, N880, N900, N999, N1019, N50000000, N100000000, N1000000000, N2147483647, N2147483648, em]
      exact r_lcm h1 h2 b1 b2 r (t + 1) n _ (by rw [hz, show (((t + 1 : Nat)) : Int) = (t : Int) + 1 from by omega, Int.mul_add, Int.mul_one]) (by omega) (by omega) (by omega)
def lcv (a b : Int) : Int := lcr a b (b - 1).toNat 1
theorem lcv_b {a b : Int} (h1 : 1 ≤ a) (h2 : a ≤ 20) (b1 : 1 ≤ b) (b2 : b ≤ 20) : 0 ≤ lcv a b ∧ lcv a b ≤ 400 := lcr_b h1 h2 _ 1 (by omega)
theorem cLcm {a b : Int} {σ : Wd} (h1 : 1 ≤ a) (h2 : a ≤ 20) (b1 : 1 ≤ b) (b2 : b ≤ 20) : f_X3_leastCommonMultiple (I a) (I b) σ = some (I (lcv a b), σ) := by
  have e := c_lcm (σ := σ) h1 h2 b1 b2 (b - 1).toNat 1 FU 1 rfl (by show _ < 6000; omega) (by omega) (by omega)
  unfold f_X3_leastCommonMultiple
  simp (disch := omega) only [gd_t, bd_s, nm_W, nm_I, I_add, I_sub, I_mul, I_neg, I_le_t, I_le_f, I_lt_t, I_lt_f, I_eq_t, I_eq_f, I_inb', I_ix', Int.toNat_natCast, decide_true, decide_false, Bool.not_false, Bool.not_true, if_true, if_false, wi_eq, wi_eq', wi_ne, wi_row, wi_2, N0, N1, N2, N3, N4, N5, N6, N7, N8, N9, N10, N11, N12, N13, N14, N15, N16, N17, N18, N19, N20, N21, N22, N23, N24, N25, N26, N27, N28, N29, N30, N31, N32, N33, N34, N35, N36, N37, N38, N39, N40, N41, N42, N43, N45, N48, N57, N59, N88, N89, N97, N99, N120, N121, N122, N179, N200, N255, N300, N400, N880, N900, N999, N1019, N50000000, N100000000, N1000000000, N2147483647, N2147483648, e]
  rfl
theorem rLcm {a b : Int} {σ : Wd} (h1 : 1 ≤ a) (h2 : a ≤ 20) (b1 : 1 ≤ b) (b2 : b ≤ 20) : f_X7_common (I a) (I b) σ = some (I (lcv a b), σ) :=
  r_lcm h1 h2 b1 b2 (b - 1).toNat 1 FU a (by omega) (by show _ < 6000; omega) (by omega) (by omega)
/-- by how much a move makes the plan dearer -/
def mvc (d : MD) (p : Int) (pl : Nat → Int) (v w : Nat) : Int :=
  if v = w then 0 else if pl v < lcv (d.lo v) (d.lo w) then 0 else if pl w + lcv (d.lo v) (d.lo w) ≤ dep d p w then cst d v (pl v - lcv (d.lo v) (d.lo w)) - cst d v (pl v) + cst d w (pl w + lcv (d.lo v) (d.lo w)) - cst d w (pl w) else 0
theorem mvc_b {d : MD} {V v w : Nat} {p : Int} {pl : Nat → Int} (hd : MDok d V) (hv : v < V) (hw : w < V) (hb : PB pl V) : -5000000 ≤ mvc d p pl v w ∧ mvc d p pl v w ≤ 5000000 := by
  obtain ⟨-, lv, -⟩ := hd.2 v hv
  obtain ⟨-, lw, -⟩ := hd.2 w hw
  have lb := lcv_b lv.1 lv.2 lw.1 lw.2
  have b1 := hb v hv
  have b2 := hb w hw
  unfold mvc
  split
  · omega
  · split
    · omega
    · split
      · have c1 := cst_bnd (n := pl v - lcv (d.lo v) (d.lo w)) hd hv (by omega) (by omega)
        have c2 := cst_bnd (n := pl v) hd hv (by omega) (by omega)
        have c3 := cst_bnd (n := pl w + lcv (d.lo v) (d.lo w)) hd hw (by omega) (by omega)
        have c4 := cst_bnd (n := pl w) hd hw (by omega) (by omega)
        omega
      · omega
theorem cMove {m : Nat} {σ : Wd} {V v w : Nat} {d : MD} {p : Int} {pl : Nat → Int} (h : CV m σ V d) (hd : MDok d V) (hp : R p) (hl : σ.1 m 1 = I p) (hv : v < V) (hw : w < V) (hb : PB pl V) (hpl : ∀ v, v < V → σ.1 (m + 7) v = I (pl v)) :
    f_X3_moveCost m (I (v : Int)) (I (w : Int)) σ = some (I (mvc d p pl v w), σ) := by
  have h5 := hd.1
  obtain ⟨-, lv, -⟩ := hd.2 v hv
  obtain ⟨-, lw, -⟩ := hd.2 w hw
  have lb := lcv_b lv.1 lv.2 lw.1 lw.2
  have b1 := hb v hv
  have b2 := hb w hw
  have db := dep_bnd (p := p) hd hw
  have el := cLcm (σ := σ) lv.1 lv.2 lw.1 lw.2
  unfold mvc
  by_cases c1 : v = w
  · rw [if_pos c1]
    unfold f_X3_moveCost
    simp (disch := omega) only [gd_t, bd_s, nm_W, nm_I, I_add, I_sub, I_mul, I_neg, I_le_t, I_le_f, I_lt_t, I_lt_f, I_eq_t, I_eq_f, I_inb', I_ix', Int.toNat_natCast, decide_true, decide_false, Bool.not_false, Bool.not_true, if_true, if_false, wi_eq, wi_eq', wi_ne, wi_row, wi_2, N0, N1, N2, N3, N4, N5, N6, N7, N8, N9, N10, N11, N12, N13, N14, N15, N16, N17, N18, N19, N20, N21, N22, N23, N24, N25, N26, N27, N28, N29, N30, N31, N32, N33, N34, N35, N36, N37, N38, N39, N40, N41, N42, N43, N45, N48, N57, N59, N88, N89, N97, N99, N120, N121, N122, N179, N200, N255, N300, N400, N880, N900, N999, N1019, N50000000, N100000000, N1000000000, N2147483647, N2147483648]
  · rw [if_neg c1]
    by_cases c2 : pl v < lcv (d.lo v) (d.lo w)
    · rw [if_pos c2]
      unfold f_X3_moveCost
      simp (disch := omega) only [gd_t, bd_s, nm_W, nm_I, I_add, I_sub, I_mul, I_neg, I_le_t, I_le_f, I_lt_t, I_lt_f, I_eq_t, I_eq_f, I_inb', I_ix', Int.toNat_natCast, decide_true, decide_false, Bool.not_false, Bool.not_true, if_true, if_false, wi_eq, wi_eq', wi_ne, wi_row, wi_2, N0, N1, N2, N3, N4, N5, N6, N7, N8, N9, N10, N11, N12, N13, N14, N15, N16, N17, N18, N19, N20, N21, N22, N23, N24, N25, N26, N27, N28, N29, N30, N31, N32, N33, N34, N35, N36, N37, N38, N39, N40, N41, N42, N43, N45, N48, N57, N59, N88, N89, N97, N99, N120, N121, N122, N179, N200, N255, N300, N400, N880, N900, N999, N1019, N50000000, N100000000, N1000000000, N2147483647, N2147483648, cLot h hd hv, cLot h hd hw, el, hpl v hv, f_X3_moveCost_47]
    · rw [if_neg c2]
      by_cases c3 : pl w + lcv (d.lo v) (d.lo w) ≤ dep d p w
      · rw [if_pos c3]
        unfold f_X3_moveCost
        simp (disch := omega) only [gd_t, bd_s, nm_W, nm_I, I_add, I_sub, I_mul, I_neg, I_le_t, I_le_f, I_lt_t, I_lt_f, I_eq_t, I_eq_f, I_inb', I_ix', Int.toNat_natCast, decide_true, decide_false, Bool.not_false, Bool.not_true, if_true, if_false, wi_eq, wi_eq', wi_ne, wi_row, wi_2, N0, N1, N2, N3, N4, N5, N6, N7, N8, N9, N10, N11, N12, N13, N14, N15, N16, N17, N18, N19, N20, N21, N22, N23, N24, N25, N26, N27, N28, N29, N30, N31, N32, N33, N34, N35, N36, N37, N38, N39, N40, N41, N42, N43, N45, N48, N57, N59, N88, N89, N97, N99, N120, N121, N122, N179, N200, N255, N300, N400, N880, N900, N999, N1019, N50000000, N100000000, N1000000000, N2147483647, N2147483648, cLot h hd hv, cLot h hd hw, el, hpl v hv, hpl w hw, cDepth h hd hw hp hl, cCost h hd hv (n := pl v - lcv (d.lo v) (d.lo w)) (by omega) (by omega), cCost h hd hv (n := pl v) (by omega) (by omega), cCost h hd hw (n := pl w + lcv (d.lo v) (d.lo w)) (by omega) (by omega), cCost h hd hw (n := pl w) (by omega) (by omega)]
      · rw [if_neg c3]
        unfold f_X3_moveCost
        simp (disch := omega) only [gd_t, bd_s, nm_W, nm_I, I_add, I_sub, I_mul, I_neg, I_le_t, I_le_f, I_lt_t, I_lt_f, I_eq_t, I_eq_f, I_inb', I_ix', Int.toNat_natCast, decide_true, decide_false, Bool.not_false, Bool.not_true, if_true, if_false, wi_eq, wi_eq', wi_ne, wi_row, wi_2, N0, N1, N2, N3, N4, N5, N6, N7, N8, N9, N10, N11, N12, N13, N14, N15, N16, N17, N18, N19, N20, N21, N22, N23, N24, N25, N26, N27, N28, N29, N30, N31, N32, N33, N34, N35, N36, N37, N38, N39, N40, N41, N42, N43, N45, N48, N57, N59, N88, N89, N97, N99, N120, N121, N122, N179, N200, N255, N300, N400, N880, N900, N999, N1019, N50000000, N100000000, N1000000000, N2147483647, N2147483648, cLot h hd hv, cLot h hd hw, el, hpl v hv, hpl w hw, cDepth h hd hw hp hl, f_X3_moveCost_47]
