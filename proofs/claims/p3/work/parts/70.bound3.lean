/-! PURE: bound and margin, whole -/
def bs (S : Int → Int) : Nat → Int → Int → Int
  | 0, _, _ => 0
  | r + 1, w, left => if left ≤ 0 then 0 else (if left ≤ S w then left else S w) * w + bs S r (w + 1) (left - (if left ≤ S w then left else S w))
def br (S : Int → Int) : Nat → Int → Int → Int → Int
  | 0, _, _, e => e
  | r + 1, w, left, e => if left ≤ 0 then e else br S r (w + 1) (left - (if left ≤ S w then left else S w)) (if S w = 0 then e else w)
theorem bs_done {S : Int → Int} {w left e : Int} (h : left ≤ 0) : ∀ r, bs S r w left = 0 ∧ br S r w left e = e
  | 0 => ⟨rfl, rfl⟩
  | r + 1 => by
    unfold bs br
    rw [if_pos h, if_pos h]
    exact ⟨rfl, rfl⟩
theorem bs_zero {S : Int → Int} {e left : Int} (hl : 0 < left) : ∀ (r : Nat) (w : Int), (∀ x, w ≤ x → x < w + r → S x = 0) → bs S r w left = 0 ∧ br S r w left e = e
  | 0, _, _ => ⟨rfl, rfl⟩
  | r + 1, w, h => by
    have s0 : S w = 0 := h w (by omega) (by omega)
    obtain ⟨i1, i2⟩ := bs_zero (S := S) (e := e) hl r (w + 1) (fun x h1 h2 => h x (by omega) (by omega))
    have hn : ¬ left ≤ 0 := by omega
    rw [bs, br]
    simp only [s0, if_neg hn, eq_self, if_true, Int.sub_zero, Int.zero_mul, Int.zero_add, i1, i2, and_self]
theorem bs_skip {S : Int → Int} {e left : Int} (hl : 0 < left) {r : Nat} : ∀ (k : Nat) (w : Int), (∀ x, w ≤ x → x < w + k → S x = 0) → bs S (r + k) w left = bs S r (w + k) left ∧ br S (r + k) w left e = br S r (w + k) left e
  | 0, w, _ => by
    rw [Nat.add_zero, show w + ((0 : Nat) : Int) = w from by omega]
    exact ⟨rfl, rfl⟩
  | k + 1, w, h => by
    have s0 : S w = 0 := h w (by omega) (by omega)
    obtain ⟨i1, i2⟩ := bs_skip (S := S) (e := e) hl (r := r) k (w + 1) (fun x h1 h2 => h x (by omega) (by omega))
    have hn : ¬ left ≤ 0 := by omega
    rw [show r + (k + 1) = (r + k) + 1 from rfl, bs, br]
    simp only [s0, if_neg hn, eq_self, if_true, Int.sub_zero, Int.zero_mul, Int.zero_add, i1, i2]
    rw [show w + 1 + (k : Int) = w + ((k + 1 : Nat) : Int) from by omega]
    exact ⟨rfl, rfl⟩
theorem r_bound {V : Nat} {p : Int} {d : MD} (hd : MDok d V) (hp : R p) :
    ∀ (r n : Nat) (w left sum e : Int) (σ : Wd), w + (r : Int) = 1020 → -20 ≤ w → r < n → 0 ≤ left → left ≤ 120 → RV σ V d → σ.1 102 12 = I p → σ.1 102 39 = I e →
      ∃ σ', f_X7_boundOf_14 n (I left) (I sum) (I w) σ = some (I (sum + bs (fun w => wt d p w V 0) r w left), σ') ∧ σ'.1 102 39 = I (br (fun w => wt d p w V 0) r w left e)
        ∧ (∀ k, k ≠ 102 → σ'.1 k = σ.1 k) ∧ (∀ i, i ≠ 39 → σ'.1 102 i = σ.1 102 i) ∧ σ'.2 = σ.2
  | 0, n + 1, w, left, sum, e, σ, hw, h2, hn, l0, l1, h, hl, he => by
    refine ⟨σ, ?_, he, fun _ _ => rfl, fun _ _ => rfl, rfl⟩
    rw [f_X7_boundOf_14]
    simp (disch := omega) only [gd_t, bd_s, nm_W, nm_I, I_add, I_sub, I_mul, I_neg, I_le_t, I_le_f, I_lt_t, I_lt_f, I_eq_t, I_eq_f, I_inb', I_ix', Int.toNat_natCast, decide_true, decide_false, Bool.not_false, Bool.not_true, if_true, if_false, wi_eq, wi_eq', wi_ne, wi_row, wi_2, N0, N1, N2, N3, N4, N5, N6, N7, N8, N9, N10, N11, N12, N13, N14, N15, N16, N17, N18, N19, N20, N21, N22, N23, N24, N25, N26, N27, N28, N29, N30, N31, N32, N33, N34, N35, N36, N37, N38, N39, N40, N41, N42, N43, N45, N48, N57, N59, N88, N89, N97, N99, N120, N121, N122, N179, N200, N255, N300, N400, N880, N900, N999, N1019, N50000000, N100000000, N1000000000, N2147483647, N2147483648, f_X7_boundOf_81, bs]
    rw [Int.add_zero]
  | r + 1, n + 1, w, left, sum, e, σ, hw, h2, hn, l0, l1, h, hl, he => by
    have h5 := hd.1
    have eu := rUW h hd hp hl (show R w by unfold R; omega)
    have sb := wt_bnd (p := p) (w := w) hd V 0 (by omega)
    by_cases c0 : left ≤ 0
    · refine ⟨σ, ?_, by rw [(bs_done c0 (r + 1)).2]; exact he, fun _ _ => rfl, fun _ _ => rfl, rfl⟩
      rw [f_X7_boundOf_14, (bs_done (e := e) c0 (r + 1)).1, Int.add_zero]
      simp (disch := omega) only [gd_t, bd_s, nm_W, nm_I, I_add, I_sub, I_mul, I_neg, I_le_t, I_le_f, I_lt_t, I_lt_f, I_eq_t, I_eq_f, I_inb', I_ix', Int.toNat_natCast, decide_true, decide_false, Bool.not_false, Bool.not_true, if_true, if_false, wi_eq, wi_eq', wi_ne, wi_row, wi_2, N0, N1, N2, N3, N4, N5, N6, N7, N8, N9, N10, N11, N12, N13, N14, N15, N16, N17, N18, N19, N20, N21, N22, N23, N24, N25, N26, N27, N28, N29, N30, N31, N32, N33, N34, N35, N36, N37, N38, N39, N40, N41, N42, N43, N45, N48, N57, N59, N88, N89, N97, N99, N120, N121, N122, N179, N200, N255, N300, N400, N880, N900, N999, N1019, N50000000, N100000000, N1000000000, N2147483647, N2147483648, f_X7_boundOf_81]
    · by_cases c1 : wt d p w V 0 = 0
      · obtain ⟨σ', q1, q2, q3, q4, q5⟩ := r_bound hd hp r n (w + 1) left sum e σ (by omega) (by omega) (by omega) l0 l1 h hl he
        refine ⟨σ', ?_, ?_, q3, q4, q5⟩
        · rw [bs, if_neg c0]
          simp only [c1, if_neg c0, Int.sub_zero, Int.zero_mul, Int.zero_add]
          rw [← q1, f_X7_boundOf_14]
          simp (disch := omega) only [gd_t, bd_s, nm_W, nm_I, I_add, I_sub, I_mul, I_neg, I_le_t, I_le_f, I_lt_t, I_lt_f, I_eq_t, I_eq_f, I_inb', I_ix', Int.toNat_natCast, decide_true, decide_false, Bool.not_false, Bool.not_true, if_true, if_false, wi_eq, wi_eq', wi_ne, wi_row, wi_2, N0, N1, N2, N3, N4, N5, N6, N7, N8, N9, N10, N11, N12, N13, N14, N15, N16, N17, N18, N19, N20, N21, N22, N23, N24, N25, N26, N27, N28, N29, N30, N31, N32, N33, N34, N35, N36, N37, N38, N39, N40, N41, N42, N43, N45, N48, N57, N59, N88, N89, N97, N99, N120, N121, N122, N179, N200, N255, N300, N400, N880, N900, N999, N1019, N50000000, N100000000, N1000000000, N2147483647, N2147483648, eu, c1, f_X7_boundOf_75]
        · rw [br, if_neg c0]
          simp only [c1, if_neg c0, Int.sub_zero, eq_self, if_true]
          exact q2
      · have h' : RV (wi σ 102 39 (I w)) V d := RV_congr h (by rw [wi_ne (by decide)]) (wi_row (by decide)) (wi_row (by decide)) (wi_row (by decide))
        obtain ⟨t, ht⟩ : ∃ t, t = (if left ≤ wt d p w V 0 then left else wt d p w V 0) := ⟨_, rfl⟩
        have tb : 0 ≤ left - t ∧ left - t ≤ 120 := by
          split at ht <;> omega
        obtain ⟨σ', q1, q2, q3, q4, q5⟩ := r_bound hd hp r n (w + 1) (left - t) (sum + t * w) w (wi σ 102 39 (I w)) (by omega) (by omega) (by omega) tb.1 tb.2 h' (by rw [wi_ne (by decide)]; exact hl) wi_eq
        refine ⟨σ', ?_, ?_, fun k hk => by rw [q3 k hk, wi_row hk], fun i hi => by rw [q4 i hi, wi_ne hi], by rw [q5, wi_2]⟩
        · rw [bs, if_neg c0]
          rw [← ht, ← Int.add_assoc, ← q1, f_X7_boundOf_14]
          by_cases c2 : left ≤ wt d p w V 0
          · rw [if_pos c2] at ht
            simp (disch := omega) only [gd_t, bd_s, nm_W, nm_I, I_add, I_sub, I_mul, I_neg, I_le_t, I_le_f, I_lt_t, I_lt_f, I_eq_t, I_eq_f, I_inb', I_ix', Int.toNat_natCast, decide_true, decide_false, Bool.not_false, Bool.not_true, if_true, if_false, wi_eq, wi_eq', wi_ne, wi_row, wi_2, N0, N1, N2, N3, N4, N5, N6, N7, N8, N9, N10, N11, N12, N13, N14, N15, N16, N17, N18, N19, N20, N21, N22, N23, N24, N25, N26, N27, N28, N29, N30, N31, N32, N33, N34, N35, N36, N37, N38, N39, N40, N41, N42, N43, N45, N48, N57, N59, N88, N89, N97, N99, N120, N121, N122, N179, N200, N255, N300, N400, N880, N900, N999, N1019, N50000000, N100000000, N1000000000, N2147483647, N2147483648, eu, f_X7_boundOf_60, f_X7_boundOf_75, ht]
          · rw [if_neg c2] at ht
            simp (disch := omega) only [gd_t, bd_s, nm_W, nm_I, I_add, I_sub, I_mul, I_neg, I_le_t, I_le_f, I_lt_t, I_lt_f, I_eq_t, I_eq_f, I_inb', I_ix', Int.toNat_natCast, decide_true, decide_false, Bool.not_false, Bool.not_true, if_true, if_false, wi_eq, wi_eq', wi_ne, wi_row, wi_2, N0, N1, N2, N3, N4, N5, N6, N7, N8, N9, N10, N11, N12, N13, N14, N15, N16, N17, N18, N19, N20, N21, N22, N23, N24, N25, N26, N27, N28, N29, N30, N31, N32, N33, N34, N35, N36, N37, N38, N39, N40, N41, N42, N43, N45, N48, N57, N59, N88, N89, N97, N99, N120, N121, N122, N179, N200, N255, N300, N400, N880, N900, N999, N1019, N50000000, N100000000, N1000000000, N2147483647, N2147483648, eu, f_X7_boundOf_60, f_X7_boundOf_75, ht]
        · rw [br, if_neg c0]
          rw [← ht, if_neg c1]
          exact q2
def bnd (d : MD) (p : Int) (V q : Nat) : Int := bs (fun w => wt d p w V 0) 1040 (-20) (q : Int)
def mrg (d : MD) (p : Int) (V q : Nat) : Int := br (fun w => wt d p w V 0) 1040 (-20) (q : Int) (-2147483648)
theorem rBound {σ : Wd} {V q : Nat} {p : Int} {d : MD} (hd : MDok d V) (hp : R p) (hq : q ≤ 120) (h : RV σ V d) (hl : σ.1 102 12 = I p) :
    ∃ σ', f_X7_boundOf (I (q : Int)) σ = some (I (bnd d p V q), σ') ∧ σ'.1 102 39 = I (mrg d p V q) ∧ (∀ k, k ≠ 102 → σ'.1 k = σ.1 k) ∧ (∀ i, i ≠ 39 → σ'.1 102 i = σ.1 102 i) ∧ σ'.2 = σ.2 := by
  have h' : RV (wi σ 102 39 (I (-2147483648))) V d := RV_congr h (by rw [wi_ne (by decide)]) (wi_row (by decide)) (wi_row (by decide)) (wi_row (by decide))
  obtain ⟨σ', q1, q2, q3, q4, q5⟩ := r_bound hd hp 1040 FU (-20) (q : Int) 0 (-2147483648) (wi σ 102 39 (I (-2147483648))) (by decide) (by decide) (by decide) (by omega) (by omega) h' (by rw [wi_ne (by decide)]; exact hl) wi_eq
  refine ⟨σ', ?_, q2, fun k hk => by rw [q3 k hk, wi_row hk], fun i hi => by rw [q4 i hi, wi_ne hi], by rw [q5, wi_2]⟩
  rw [Int.zero_add] at q1
  exact q1
theorem c_bound {m V : Nat} {p : Int} {d : MD} (hm : 10 < m) (hd : MDok d V) (hp : R p) :
    ∀ (r n i R1 : Nat) (z W ab left tot e : Int) (σ : Wd), z = (i : Int) → i + r = 30 → r < n → W + (R1 : Int) = 1020 → -20 ≤ W → R ab → (∀ w, CS d p V w → (ab < w ↔ W ≤ w)) → i + ct d p W V 0 ≤ 30 → 0 ≤ left → left ≤ 120 →
      CV m σ V d → σ.1 m 1 = I p → σ.1 10 0 = I tot → σ.1 10 1 = I e →
      ∃ σ', f_X0_measure_20 m n (I left) (I ab) (I z) σ = some (0, σ') ∧ σ'.1 10 0 = I (tot + bs (fun w => wt d p w V 0) R1 W left) ∧ σ'.1 10 1 = I (br (fun w => wt d p w V 0) R1 W left e)
        ∧ (∀ k, k ≠ 10 → σ'.1 k = σ.1 k) ∧ σ'.2 = σ.2
  | r, 0, i, R1, z, W, ab, left, tot, e, σ, hz, hi, hn, hW, hW2, hab, hcs, hct, l0, l1, h, hl, h0, h1 => absurd hn (by omega)
  | r, n + 1, i, R1, z, W, ab, left, tot, e, σ, hz, hi, hn, hW, hW2, hab, hcs, hct, l0, l1, h, hl, h0, h1 => by
    have h5 := hd.1
    by_cases c0 : left ≤ 0
    · refine ⟨σ, ?_, by rw [(bs_done (e := e) c0 R1).1, Int.add_zero]; exact h0, by rw [(bs_done c0 R1).2]; exact h1, fun _ _ => rfl, rfl⟩
      rw [f_X0_measure_20]
      by_cases c1 : 30 ≤ z
      · simp (disch := omega) only [gd_t, bd_s, nm_W, nm_I, I_add, I_sub, I_mul, I_neg, I_le_t, I_le_f, I_lt_t, I_lt_f, I_eq_t, I_eq_f, I_inb', I_ix', Int.toNat_natCast, decide_true, decide_false, Bool.not_false, Bool.not_true, if_true, if_false, wi_eq, wi_eq', wi_ne, wi_row, wi_2, N0, N1, N2, N3, N4, N5, N6, N7, N8, N9, N10, N11, N12, N13, N14, N15, N16, N17, N18, N19, N20, N21, N22, N23, N24, N25, N26, N27, N28, N29, N30, N31, N32, N33, N34, N35, N36, N37, N38, N39, N40, N41, N42, N43, N45, N48, N57, N59, N88, N89, N97, N99, N120, N121, N122, N179, N200, N255, N300, N400, N880, N900, N999, N1019, N50000000, N100000000, N1000000000, N2147483647, N2147483648, f_X0_measure_102]
      · simp (disch := omega) only [gd_t, bd_s, nm_W, nm_I, I_add, I_sub, I_mul, I_neg, I_le_t, I_le_f, I_lt_t, I_lt_f, I_eq_t, I_eq_f, I_inb', I_ix', Int.toNat_natCast, decide_true, decide_false, Bool.not_false, Bool.not_true, if_true, if_false, wi_eq, wi_eq', wi_ne, wi_row, wi_2, N0, N1, N2, N3, N4, N5, N6, N7, N8, N9, N10, N11, N12, N13, N14, N15, N16, N17, N18, N19, N20, N21, N22, N23, N24, N25, N26, N27, N28, N29, N30, N31, N32, N33, N34, N35, N36, N37, N38, N39, N40, N41, N42, N43, N45, N48, N57, N59, N88, N89, N97, N99, N120, N121, N122, N179, N200, N255, N300, N400, N880, N900, N999, N1019, N50000000, N100000000, N1000000000, N2147483647, N2147483648, f_X0_measure_102]
    · have none : (∀ w, CS d p V w → ¬ W ≤ w) → bs (fun w => wt d p w V 0) R1 W left = 0 ∧ br (fun w => wt d p w V 0) R1 W left e = e := by
        intro hno
        refine bs_zero (by omega) R1 W (fun x g1 g2 => ?_)
        rcases wt_CS (p := p) (w := x) hd with ⟨a, b⟩ | ⟨a, b⟩
        · exact absurd g1 (hno x b)
        · exact a
      by_cases c1 : 30 ≤ i
      · have hno : ∀ w, CS d p V w → ¬ W ≤ w := by
          intro w ⟨v, k, g1, g2, g3, g4⟩ g5
          have := ct_lt (d := d) (p := p) g5 g2 g3 g4 V 0 (by omega) (by omega)
          omega
        refine ⟨σ, ?_, by rw [(none hno).1, Int.add_zero]; exact h0, by rw [(none hno).2]; exact h1, fun _ _ => rfl, rfl⟩
        rw [f_X0_measure_20]
        simp (disch := omega) only [gd_t, bd_s, nm_W, nm_I, I_add, I_sub, I_mul, I_neg, I_le_t, I_le_f, I_lt_t, I_lt_f, I_eq_t, I_eq_f, I_inb', I_ix', Int.toNat_natCast, decide_true, decide_false, Bool.not_false, Bool.not_true, if_true, if_false, wi_eq, wi_eq', wi_ne, wi_row, wi_2, N0, N1, N2, N3, N4, N5, N6, N7, N8, N9, N10, N11, N12, N13, N14, N15, N16, N17, N18, N19, N20, N21, N22, N23, N24, N25, N26, N27, N28, N29, N30, N31, N32, N33, N34, N35, N36, N37, N38, N39, N40, N41, N42, N43, N45, N48, N57, N59, N88, N89, N97, N99, N120, N121, N122, N179, N200, N255, N300, N400, N880, N900, N999, N1019, N50000000, N100000000, N1000000000, N2147483647, N2147483648, f_X0_measure_102]
      · obtain ⟨y, y1, y2⟩ := cNM h hd hp hl hab
        rcases y2 with ⟨y2, y3⟩ | ⟨y2, y3, y4⟩
        · have hno : ∀ w, CS d p V w → ¬ W ≤ w := fun w hw g => y3 w hw ((hcs w hw).mpr g)
          have hny : ¬ CS d p V y := fun q => by
            have := CS_bnd hd q
            omega
          have eu := cUM h hd hp hl (show R y by unfold R; omega)
          rw [wt_none hd hny V 0 (by omega)] at eu
          refine ⟨σ, ?_, by rw [(none hno).1, Int.add_zero]; exact h0, by rw [(none hno).2]; exact h1, fun _ _ => rfl, rfl⟩
          rw [f_X0_measure_20]
          simp (disch := omega) only [gd_t, bd_s, nm_W, nm_I, I_add, I_sub, I_mul, I_neg, I_le_t, I_le_f, I_lt_t, I_lt_f, I_eq_t, I_eq_f, I_inb', I_ix', Int.toNat_natCast, decide_true, decide_false, Bool.not_false, Bool.not_true, if_true, if_false, wi_eq, wi_eq', wi_ne, wi_row, wi_2, N0, N1, N2, N3, N4, N5, N6, N7, N8, N9, N10, N11, N12, N13, N14, N15, N16, N17, N18, N19, N20, N21, N22, N23, N24, N25, N26, N27, N28, N29, N30, N31, N32, N33, N34, N35, N36, N37, N38, N39, N40, N41, N42, N43, N45, N48, N57, N59, N88, N89, N97, N99, N120, N121, N122, N179, N200, N255, N300, N400, N880, N900, N999, N1019, N50000000, N100000000, N1000000000, N2147483647, N2147483648, f_X0_measure_102, y1, eu]
        · have yb := CS_bnd hd y2
          have hWy : W ≤ y := (hcs y y2).mp y3
          have eu := cUM h hd hp hl (show R y by unfold R; omega)
          have sb := wt_bnd (p := p) (w := y) hd V 0 (by omega)
          have sp : 0 < wt d p y V 0 := by
            rcases wt_CS (p := p) (w := y) hd with ⟨a, b⟩ | ⟨a, b⟩
            · exact a
            · exact absurd y2 b
          have sk := bs_skip (S := fun w => wt d p w V 0) (e := e) (left := left) (by omega) (r := (1020 - y).toNat) (y - W).toNat W (fun x g1 g2 => by
            rcases wt_CS (p := p) (w := x) hd with ⟨a, b⟩ | ⟨a, b⟩
            · have := y4 x b ((hcs x b).mpr g1)
              omega
            · exact a)
          rw [show (1020 - y).toNat + (y - W).toNat = R1 from by omega, show W + ((y - W).toNat : Int) = y from by omega, show (1020 - y).toNat = (1020 - y - 1).toNat + 1 from by omega] at sk
          rw [sk.1, sk.2, bs, br, if_neg c0, if_neg c0]
          rw [if_neg (show ¬ wt d p y V 0 = 0 by omega)]
          obtain ⟨t, ht⟩ : ∃ t, t = (if left ≤ wt d p y V 0 then left else wt d p y V 0) := ⟨_, rfl⟩
          rw [← ht]
          have tb : 0 ≤ left - t ∧ left - t ≤ 120 := by
            split at ht <;> omega
          obtain ⟨a, j, g1, g2, g3, g4⟩ := y2
          have ctl := ct_lt (d := d) (p := p) hWy g2 g3 g4 V 0 (by omega) (by omega)
          obtain ⟨τ, hτ⟩ : ∃ τ, τ = wi (wi σ 10 0 (I (tot + t * y))) 10 1 (I y) := ⟨_, rfl⟩
          have ft : ∀ k, k ≠ 10 → τ.1 k = σ.1 k := fun k hk => by rw [hτ, wi_row hk, wi_row hk]
          obtain ⟨σ', q1, q2, q3, q4, q5⟩ := c_bound hm hd hp (r - 1) n (i + 1) (1020 - y - 1).toNat (z + 1) (y + 1) y (left - t) (tot + t * y) y τ (by omega) (by omega) (by omega) (by omega) (by omega) (by unfold R; omega)
            (fun w hw => by omega) (by omega) tb.1 tb.2 (CV_congr h (fun k hk => ft k (by omega))) (by rw [ft m (by omega)]; exact hl) (by rw [hτ, wi_ne (by decide), wi_eq]) (by rw [hτ, wi_eq])
          refine ⟨σ', ?_, by rw [q2, Int.add_assoc], q3, fun k hk => by rw [q4 k hk, ft k hk], by rw [q5, hτ, wi_2, wi_2]⟩
          rw [← q1, f_X0_measure_20]
          by_cases c2 : left ≤ wt d p y V 0
          · rw [if_pos c2] at ht
            simp (disch := omega) only [gd_t, bd_s, nm_W, nm_I, I_add, I_sub, I_mul, I_neg, I_le_t, I_le_f, I_lt_t, I_lt_f, I_eq_t, I_eq_f, I_inb', I_ix', Int.toNat_natCast, decide_true, decide_false, Bool.not_false, Bool.not_true, if_true, if_false, wi_eq, wi_eq', wi_ne, wi_row, wi_2, N0, N1, N2, N3, N4, N5, N6, N7, N8, N9, N10, N11, N12, N13, N14, N15, N16, N17, N18, N19, N20, N21, N22, N23, N24, N25, N26, N27, N28, N29, N30, N31, N32, N33, N34, N35, N36, N37, N38, N39, N40, N41, N42, N43, N45, N48, N57, N59, N88, N89, N97, N99, N120, N121, N122, N179, N200, N255, N300, N400, N880, N900, N999, N1019, N50000000, N100000000, N1000000000, N2147483647, N2147483648, y1, eu, f_X0_measure_65, h0]
            rw [hτ, ht]
          · rw [if_neg c2] at ht
            simp (disch := omega) only [gd_t, bd_s, nm_W, nm_I, I_add, I_sub, I_mul, I_neg, I_le_t, I_le_f, I_lt_t, I_lt_f, I_eq_t, I_eq_f, I_inb', I_ix', Int.toNat_natCast, decide_true, decide_false, Bool.not_false, Bool.not_true, if_true, if_false, wi_eq, wi_eq', wi_ne, wi_row, wi_2, N0, N1, N2, N3, N4, N5, N6, N7, N8, N9, N10, N11, N12, N13, N14, N15, N16, N17, N18, N19, N20, N21, N22, N23, N24, N25, N26, N27, N28, N29, N30, N31, N32, N33, N34, N35, N36, N37, N38, N39, N40, N41, N42, N43, N45, N48, N57, N59, N88, N89, N97, N99, N120, N121, N122, N179, N200, N255, N300, N400, N880, N900, N999, N1019, N50000000, N100000000, N1000000000, N2147483647, N2147483648, y1, eu, f_X0_measure_65, h0]
            rw [hτ, ht]
theorem cBound {m : Nat} {σ : Wd} {V q : Nat} {p : Int} {d : MD} (hm : 10 < m) (hd : MDok d V) (hp : R p) (hq : q ≤ 120) (h : CV m σ V d) (hl : σ.1 m 1 = I p) :
    ∃ σ', f_X0_measure m (I (q : Int)) σ = some (0, σ') ∧ σ'.1 10 0 = I (bnd d p V q) ∧ σ'.1 10 1 = I (mrg d p V q) ∧ (∀ k, k ≠ 10 → σ'.1 k = σ.1 k) ∧ σ'.2 = σ.2 := by
  have h5 := hd.1
  obtain ⟨τ, hτ⟩ : ∃ τ, τ = wi (wi σ 10 0 (I 0)) 10 1 (I (-2147483648)) := ⟨_, rfl⟩
  have ft : ∀ k, k ≠ 10 → τ.1 k = σ.1 k := fun k hk => by rw [hτ, wi_row hk, wi_row hk]
  have cl := ct_le (p := p) (W := -20) hd V 0 (by omega)
  obtain ⟨σ', q1, q2, q3, q4, q5⟩ := c_bound hm hd hp 30 FU 0 1040 0 (-20) (-2147483648) (q : Int) 0 (-2147483648) τ rfl rfl (by decide) (by decide) (by decide) (by unfold R; omega)
    (fun w hw => by have := CS_bnd hd hw; omega) (by omega) (by omega) (by omega) (CV_congr h (fun k hk => ft k (by omega))) (by rw [ft m (by omega)]; exact hl) (by rw [hτ, wi_ne (by decide), wi_eq]) (by rw [hτ, wi_eq])
  refine ⟨σ', ?_, by rw [q2, Int.zero_add]; rfl, q3, fun k hk => by rw [q4 k hk, ft k hk], by rw [q5, hτ, wi_2, wi_2]⟩
  rw [← q1, hτ]
  rfl
