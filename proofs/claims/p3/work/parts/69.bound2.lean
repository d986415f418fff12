/-! PURE: the next worth; bound and margin of class and reference -/
def cn (d : MD) (p : Int) (v k : Nat) : Prop := d.pr (6 * v + k) ≤ p ∧ 0 < d.sz (6 * v + k)
def CS (d : MD) (p : Int) (V : Nat) (w : Int) : Prop := ∃ v k, v < V ∧ k < d.lv v ∧ cn d p v k ∧ d.pr (6 * v + k) + lf d v = w
theorem CS_bnd {d : MD} {p w : Int} {V : Nat} (hd : MDok d V) (h : CS d p V w) : -8 ≤ w ∧ w ≤ 1008 := by
  obtain ⟨v, k, hv, hk, -, e⟩ := h
  have lb := lf_bnd hd hv
  obtain ⟨s1, s2, p1, p2⟩ := lvOk_at hd hv hk
  omega
theorem wk_bnd {d : MD} {p w : Int} {V v : Nat} (hd : MDok d V) (hv : v < V) : ∀ (r k : Nat), k + r ≤ d.lv v → 0 ≤ wk d p w v r k ∧ wk d p w v r k ≤ 99 * (r : Int)
  | 0, _, _ => ⟨Int.le_refl 0, Int.le_refl 0⟩
  | r + 1, k, h => by
    have ih := wk_bnd (p := p) (w := w) hd hv r (k + 1) (by omega)
    obtain ⟨s1, s2, p1, p2⟩ := lvOk_at hd hv (show k < d.lv v by omega)
    unfold wk
    split <;> omega
theorem wt_bnd {d : MD} {p w : Int} {V : Nat} (hd : MDok d V) : ∀ (r v : Nat), v + r ≤ V → 0 ≤ wt d p w r v ∧ wt d p w r v ≤ 594 * (r : Int)
  | 0, _, _ => ⟨Int.le_refl 0, Int.le_refl 0⟩
  | r + 1, v, h => by
    have ih := wt_bnd (p := p) (w := w) hd r (v + 1) (by omega)
    have b := wk_bnd (p := p) (w := w) hd (show v < V by omega) (d.lv v) 0 (by omega)
    obtain ⟨-, -, -, -, f, -⟩ := hd.2 v (by omega)
    unfold wt
    omega
theorem wk_pos {d : MD} {p w : Int} {V v : Nat} (hd : MDok d V) (hv : v < V) : ∀ (r k j : Nat), k + r ≤ d.lv v → k ≤ j → j < k + r → cn d p v j → d.pr (6 * v + j) + lf d v = w → 0 < wk d p w v r k
  | 0, k, j, _, h1, h2, _, _ => absurd h2 (by omega)
  | r + 1, k, j, h, h1, h2, hc, e => by
    have b := wk_bnd (p := p) (w := w) hd hv r (k + 1) (by omega)
    obtain ⟨s1, s2, p1, p2⟩ := lvOk_at hd hv (show k < d.lv v by omega)
    unfold wk
    by_cases c : j = k
    · subst c
      rw [if_pos ⟨hc.1, e⟩]
      have := hc.2
      omega
    · have ih := wk_pos hd hv r (k + 1) j (by omega) (by omega) (by omega) hc e
      split <;> omega
theorem wk_none {d : MD} {p w : Int} {V v : Nat} (hd : MDok d V) (hv : v < V) : ∀ (r k : Nat), k + r ≤ d.lv v → (∀ j, j < d.lv v → cn d p v j → d.pr (6 * v + j) + lf d v ≠ w) → wk d p w v r k = 0
  | 0, _, _, _ => rfl
  | r + 1, k, h, hn => by
    obtain ⟨s1, s2, p1, p2⟩ := lvOk_at hd hv (show k < d.lv v by omega)
    unfold wk
    rw [wk_none hd hv r (k + 1) (by omega) hn]
    split
    · rename_i c
      have : ¬ 0 < d.sz (6 * v + k) := fun q => hn k (by omega) ⟨c.1, q⟩ c.2
      omega
    · rfl
theorem wt_pos {d : MD} {p w : Int} {V : Nat} (hd : MDok d V) : ∀ (r v : Nat), v + r = V → (∃ a k, v ≤ a ∧ a < V ∧ k < d.lv a ∧ cn d p a k ∧ d.pr (6 * a + k) + lf d a = w) → 0 < wt d p w r v
  | 0, v, h, ⟨a, _, h1, h2, _⟩ => absurd h2 (by omega)
  | r + 1, v, h, ⟨a, k, h1, h2, h3, h4, h5⟩ => by
    have b := wt_bnd (p := p) (w := w) hd r (v + 1) (by omega)
    have b2 := wk_bnd (p := p) (w := w) hd (show v < V by omega) (d.lv v) 0 (by omega)
    unfold wt
    by_cases c : a = v
    · subst c
      have := wk_pos hd h2 (d.lv a) 0 k (by omega) (by omega) (by omega) h4 h5
      omega
    · have := wt_pos hd r (v + 1) (by omega) ⟨a, k, by omega, h2, h3, h4, h5⟩
      omega
theorem wt_none {d : MD} {p w : Int} {V : Nat} (hd : MDok d V) (hn : ¬ CS d p V w) : ∀ (r v : Nat), v + r = V → wt d p w r v = 0
  | 0, _, _ => rfl
  | r + 1, v, h => by
    unfold wt
    rw [wt_none hd hn r (v + 1) (by omega), wk_none hd (show v < V by omega) (d.lv v) 0 (by omega) (fun j hj hc e => hn ⟨v, j, by omega, hj, hc, e⟩)]
    rfl
theorem wt_CS {d : MD} {p w : Int} {V : Nat} (hd : MDok d V) : (0 < wt d p w V 0 ∧ CS d p V w) ∨ (wt d p w V 0 = 0 ∧ ¬ CS d p V w) := by
  by_cases c : CS d p V w
  · obtain ⟨v, k, h1, h2, h3, h4⟩ := c
    exact Or.inl ⟨wt_pos hd V 0 (by omega) ⟨v, k, by omega, h1, h2, h3, h4⟩, ⟨v, k, h1, h2, h3, h4⟩⟩
  · exact Or.inr ⟨wt_none hd c V 0 (by omega), c⟩
/-- the class: the next worth at one venue -/
theorem c_nm1 {m : Nat} {σ : Wd} {V v : Nat} {p ab : Int} {d : MD} {k5 : Int32 → Int32 → Int32 → Wd → Option (Int32 × Wd)} (h : CV m σ V d) (hd : MDok d V) (hv : v < V) (hp : R p) (hl : σ.1 m 1 = I p) (ha : R ab) :
    ∀ (r k n : Nat) (x z : Int), z = (k : Int) → r < n → k + r = d.lv v → R x →
      ∃ y, f_X0_nextMarginal_16 m k5 n (I ab) (I x) (I (v : Int)) (I z) σ = k5 (I ab) (I y) (I ((v : Int) + 1)) σ ∧ R y ∧ y ≤ x
        ∧ (y = x ∨ ∃ j, j < d.lv v ∧ cn d p v j ∧ ab < d.pr (6 * v + j) + lf d v ∧ y = d.pr (6 * v + j) + lf d v)
        ∧ (∀ j, k ≤ j → j < d.lv v → cn d p v j → ab < d.pr (6 * v + j) + lf d v → y ≤ d.pr (6 * v + j) + lf d v)
  | 0, k, n + 1, x, z, hz, _, hk, hx => by
    have v5 : v < 5 := Nat.lt_of_lt_of_le hv hd.1
    obtain ⟨-, -, -, -, f, -⟩ := hd.2 v hv
    have e1 := (h.2 v hv).2.2.2.2.1
    refine ⟨x, ?_, hx, Int.le_refl _, Or.inl rfl, fun j h1 h2 => absurd h2 (by omega)⟩
    rw [f_X0_nextMarginal_16]
    simp (disch := omega) only [gd_t, bd_s, nm_W, nm_I, I_add, I_sub, I_mul, I_neg, I_le_t, I_le_f, I_lt_t, I_lt_f, I_eq_t, I_eq_f, I_inb', I_ix', Int.toNat_natCast, decide_true, decide_false, Bool.not_false, Bool.not_true, if_true, if_false, wi_eq, wi_eq', wi_ne, wi_row, wi_2, N0, N1, N2, N3, N4, N5, N6, N7, N8, N9, N10, N11, N12, N13, N14, N15, N16, N17, N18, N19, N20, N21, N22, N23, N24, N25, N26, N27, N28, N29, N30, N31, N32, N33, N34, N35, N36, N37, N38, N39, N40, N41, N42, N43, N45, N48, N57, N59, N88, N89, N97, N99, N120, N121, N122, N179, N200, N255, N300, N400, N880, N900, N999, N1019, N50000000, N100000000, N1000000000, N2147483647, N2147483648, e1]
  | r + 1, k, n + 1, x, z, hz, hn, hk, hx => by
    subst hz
    have v5 : v < 5 := Nat.lt_of_lt_of_le hv hd.1
    obtain ⟨-, -, -, -, f, -⟩ := hd.2 v hv
    have e1 := (h.2 v hv).2.2.2.2.1
    have kl : k < d.lv v := by omega
    obtain ⟨e2, e3⟩ := (h.2 v hv).2.2.2.2.2 k kl
    obtain ⟨s1, s2, p1, p2⟩ := lvOk_at hd hv kl
    have lb := lf_bnd hd hv
    have t1 : ((v : Int) * 6 + (k : Int)).toNat = 6 * v + k := by omega
    have ct := cCounts h hd hv kl hp hl
    have ih := fun x (hx : R x) => c_nm1 (k5 := k5) h hd hv hp hl ha r (k + 1) n x ((k : Int) + 1) (by omega) (by omega) (by omega) hx
    have same : (cn d p v k → ab < d.pr (6 * v + k) + lf d v → x ≤ d.pr (6 * v + k) + lf d v) → f_X0_nextMarginal_16 m k5 (n + 1) (I ab) (I x) (I (v : Int)) (I (k : Int)) σ = f_X0_nextMarginal_16 m k5 n (I ab) (I x) (I (v : Int)) (I ((k : Int) + 1)) σ → ∃ y, f_X0_nextMarginal_16 m k5 (n + 1) (I ab) (I x) (I (v : Int)) (I (k : Int)) σ = k5 (I ab) (I y) (I ((v : Int) + 1)) σ ∧ R y ∧ y ≤ x
        ∧ (y = x ∨ ∃ j, j < d.lv v ∧ cn d p v j ∧ ab < d.pr (6 * v + j) + lf d v ∧ y = d.pr (6 * v + j) + lf d v)
        ∧ (∀ j, k ≤ j → j < d.lv v → cn d p v j → ab < d.pr (6 * v + j) + lf d v → y ≤ d.pr (6 * v + j) + lf d v) := by
      intro hs he
      obtain ⟨y, q1, q2, q3, q4, q5⟩ := ih x hx
      refine ⟨y, by rw [he, q1], q2, q3, q4, fun j h1 h2 h3 h4 => ?_⟩
      by_cases c : j = k
      · subst c
        have := hs h3 h4
        omega
      · exact q5 j (by omega) h2 h3 h4
    have ha' := ha
    have hx' := hx
    unfold R at hp ha' hx'
    by_cases c1 : d.pr (6 * v + k) ≤ p ∧ 0 < d.sz (6 * v + k)
    · rw [if_pos c1] at ct
      by_cases c2 : ab < d.pr (6 * v + k) + lf d v
      · by_cases c3 : d.pr (6 * v + k) + lf d v < x
        · obtain ⟨y, q1, q2, q3, q4, q5⟩ := ih (d.pr (6 * v + k) + lf d v) (by unfold R; omega)
          refine ⟨y, ?_, q2, by omega, ?_, fun j h1 h2 h3 h4 => ?_⟩
          · rw [← q1, f_X0_nextMarginal_16]
            simp (disch := omega) only [gd_t, bd_s, nm_W, nm_I, I_add, I_sub, I_mul, I_neg, I_le_t, I_le_f, I_lt_t, I_lt_f, I_eq_t, I_eq_f, I_inb', I_ix', Int.toNat_natCast, decide_true, decide_false, Bool.not_false, Bool.not_true, if_true, if_false, wi_eq, wi_eq', wi_ne, wi_row, wi_2, N0, N1, N2, N3, N4, N5, N6, N7, N8, N9, N10, N11, N12, N13, N14, N15, N16, N17, N18, N19, N20, N21, N22, N23, N24, N25, N26, N27, N28, N29, N30, N31, N32, N33, N34, N35, N36, N37, N38, N39, N40, N41, N42, N43, N45, N48, N57, N59, N88, N89, N97, N99, N120, N121, N122, N179, N200, N255, N300, N400, N880, N900, N999, N1019, N50000000, N100000000, N1000000000, N2147483647, N2147483648, e1, ct, f_X6_slot, t1, e2, cLeastFee h hd hv, f_X0_nextMarginal_71]
          · rcases q4 with q4 | q4
            · exact Or.inr ⟨k, kl, c1, c2, q4⟩
            · exact Or.inr q4
          · by_cases c : j = k
            · subst c; exact q3
            · exact q5 j (by omega) h2 h3 h4
        · refine same (fun _ _ => by omega) ?_
          rw [f_X0_nextMarginal_16]
          simp (disch := omega) only [gd_t, bd_s, nm_W, nm_I, I_add, I_sub, I_mul, I_neg, I_le_t, I_le_f, I_lt_t, I_lt_f, I_eq_t, I_eq_f, I_inb', I_ix', Int.toNat_natCast, decide_true, decide_false, Bool.not_false, Bool.not_true, if_true, if_false, wi_eq, wi_eq', wi_ne, wi_row, wi_2, N0, N1, N2, N3, N4, N5, N6, N7, N8, N9, N10, N11, N12, N13, N14, N15, N16, N17, N18, N19, N20, N21, N22, N23, N24, N25, N26, N27, N28, N29, N30, N31, N32, N33, N34, N35, N36, N37, N38, N39, N40, N41, N42, N43, N45, N48, N57, N59, N88, N89, N97, N99, N120, N121, N122, N179, N200, N255, N300, N400, N880, N900, N999, N1019, N50000000, N100000000, N1000000000, N2147483647, N2147483648, e1, ct, f_X6_slot, t1, e2, cLeastFee h hd hv, f_X0_nextMarginal_71]
      · refine same (fun _ q => absurd q c2) ?_
        rw [f_X0_nextMarginal_16]
        simp (disch := omega) only [gd_t, bd_s, nm_W, nm_I, I_add, I_sub, I_mul, I_neg, I_le_t, I_le_f, I_lt_t, I_lt_f, I_eq_t, I_eq_f, I_inb', I_ix', Int.toNat_natCast, decide_true, decide_false, Bool.not_false, Bool.not_true, if_true, if_false, wi_eq, wi_eq', wi_ne, wi_row, wi_2, N0, N1, N2, N3, N4, N5, N6, N7, N8, N9, N10, N11, N12, N13, N14, N15, N16, N17, N18, N19, N20, N21, N22, N23, N24, N25, N26, N27, N28, N29, N30, N31, N32, N33, N34, N35, N36, N37, N38, N39, N40, N41, N42, N43, N45, N48, N57, N59, N88, N89, N97, N99, N120, N121, N122, N179, N200, N255, N300, N400, N880, N900, N999, N1019, N50000000, N100000000, N1000000000, N2147483647, N2147483648, e1, ct, f_X6_slot, t1, e2, cLeastFee h hd hv, f_X0_nextMarginal_71]
    · rw [if_neg c1] at ct
      refine same (fun q _ => absurd q c1) ?_
      rw [f_X0_nextMarginal_16]
      simp (disch := omega) only [gd_t, bd_s, nm_W, nm_I, I_add, I_sub, I_mul, I_neg, I_le_t, I_le_f, I_lt_t, I_lt_f, I_eq_t, I_eq_f, I_inb', I_ix', Int.toNat_natCast, decide_true, decide_false, Bool.not_false, Bool.not_true, if_true, if_false, wi_eq, wi_eq', wi_ne, wi_row, wi_2, N0, N1, N2, N3, N4, N5, N6, N7, N8, N9, N10, N11, N12, N13, N14, N15, N16, N17, N18, N19, N20, N21, N22, N23, N24, N25, N26, N27, N28, N29, N30, N31, N32, N33, N34, N35, N36, N37, N38, N39, N40, N41, N42, N43, N45, N48, N57, N59, N88, N89, N97, N99, N120, N121, N122, N179, N200, N255, N300, N400, N880, N900, N999, N1019, N50000000, N100000000, N1000000000, N2147483647, N2147483648, e1, ct, f_X6_slot, t1, e2, cLeastFee h hd hv, f_X0_nextMarginal_71]
theorem c_nm {m : Nat} {σ : Wd} {V : Nat} {p ab : Int} {d : MD} (h : CV m σ V d) (hd : MDok d V) (hp : R p) (hl : σ.1 m 1 = I p) (ha : R ab) :
    ∀ (r v n : Nat) (x z : Int), z = (v : Int) → r < n → v + r = V → R x →
      ∃ y, f_X0_nextMarginal_5 m n (I ab) (I x) (I z) σ = some (I y, σ) ∧ R y ∧ y ≤ x ∧ (y = x ∨ (CS d p V y ∧ ab < y))
        ∧ (∀ a j, v ≤ a → a < V → j < d.lv a → cn d p a j → ab < d.pr (6 * a + j) + lf d a → y ≤ d.pr (6 * a + j) + lf d a)
  | 0, v, n + 1, x, z, hz, _, hv, hx => by
    have h5 := hd.1
    refine ⟨x, ?_, hx, Int.le_refl _, Or.inl rfl, fun a j h1 h2 => absurd h2 (by omega)⟩
    rw [f_X0_nextMarginal_5]
    simp (disch := omega) only [gd_t, bd_s, nm_W, nm_I, I_add, I_sub, I_mul, I_neg, I_le_t, I_le_f, I_lt_t, I_lt_f, I_eq_t, I_eq_f, I_inb', I_ix', Int.toNat_natCast, decide_true, decide_false, Bool.not_false, Bool.not_true, if_true, if_false, wi_eq, wi_eq', wi_ne, wi_row, wi_2, N0, N1, N2, N3, N4, N5, N6, N7, N8, N9, N10, N11, N12, N13, N14, N15, N16, N17, N18, N19, N20, N21, N22, N23, N24, N25, N26, N27, N28, N29, N30, N31, N32, N33, N34, N35, N36, N37, N38, N39, N40, N41, N42, N43, N45, N48, N57, N59, N88, N89, N97, N99, N120, N121, N122, N179, N200, N255, N300, N400, N880, N900, N999, N1019, N50000000, N100000000, N1000000000, N2147483647, N2147483648, h.1]
  | r + 1, v, n + 1, x, z, hz, hn, hv, hx => by
    subst hz
    have h5 := hd.1
    have hvV : v < V := by omega
    obtain ⟨-, -, -, -, f, -⟩ := hd.2 v hvV
    obtain ⟨y, q1, q2, q3, q4, q5⟩ := c_nm1 (k5 := f_X0_nextMarginal_5 m n) h hd hvV hp hl ha (d.lv v) 0 FU x 0 rfl (by show _ < 6000; omega) (by omega) hx
    obtain ⟨y2, w1, w2, w3, w4, w5⟩ := c_nm h hd hp hl ha r (v + 1) n y ((v : Int) + 1) (by omega) (by omega) (by omega) q2
    refine ⟨y2, ?_, w2, by omega, ?_, fun a j h1 h2 h3 h4 h5 => ?_⟩
    · rw [← w1, ← q1, f_X0_nextMarginal_5]
      simp (disch := omega) only [gd_t, bd_s, nm_W, nm_I, I_add, I_sub, I_mul, I_neg, I_le_t, I_le_f, I_lt_t, I_lt_f, I_eq_t, I_eq_f, I_inb', I_ix', Int.toNat_natCast, decide_true, decide_false, Bool.not_false, Bool.not_true, if_true, if_false, wi_eq, wi_eq', wi_ne, wi_row, wi_2, N0, N1, N2, N3, N4, N5, N6, N7, N8, N9, N10, N11, N12, N13, N14, N15, N16, N17, N18, N19, N20, N21, N22, N23, N24, N25, N26, N27, N28, N29, N30, N31, N32, N33, N34, N35, N36, N37, N38, N39, N40, N41, N42, N43, N45, N48, N57, N59, N88, N89, N97, N99, N120, N121, N122, N179, N200, N255, N300, N400, N880, N900, N999, N1019, N50000000, N100000000, N1000000000, N2147483647, N2147483648, h.1]
    · rcases w4 with w4 | w4
      · rcases q4 with q4 | ⟨j, g1, g2, g3, g4⟩
        · exact Or.inl (by omega)
        · exact Or.inr ⟨⟨v, j, hvV, g1, g2, by omega⟩, by omega⟩
      · exact Or.inr w4
    · by_cases c : a = v
      · subst c
        have := q5 j (by omega) h3 h4 h5
        omega
      · exact w5 a j (by omega) h2 h3 h4 h5
theorem cNM {m : Nat} {σ : Wd} {V : Nat} {p ab : Int} {d : MD} (h : CV m σ V d) (hd : MDok d V) (hp : R p) (hl : σ.1 m 1 = I p) (ha : R ab) :
    ∃ y, f_X0_nextMarginal m (I ab) σ = some (I y, σ) ∧ ((y = 2147483647 ∧ ∀ w, CS d p V w → ¬ ab < w) ∨ (CS d p V y ∧ ab < y ∧ ∀ w, CS d p V w → ab < w → y ≤ w)) := by
  have h5 := hd.1
  obtain ⟨y, q1, q2, q3, q4, q5⟩ := c_nm h hd hp hl ha V 0 FU 2147483647 0 rfl (by show _ < 6000; omega) (by omega) (by unfold R; omega)
  have lo : ∀ w, CS d p V w → ab < w → y ≤ w := by
    intro w hw hab
    obtain ⟨a, j, g1, g2, g3, g4⟩ := hw
    rw [← g4]
    exact q5 a j (by omega) g1 g2 g3 (by omega)
  refine ⟨y, q1, ?_⟩
  rcases q4 with q4 | ⟨q4, q6⟩
  · refine Or.inl ⟨q4, fun w hw hab => ?_⟩
    have := lo w hw hab
    have := CS_bnd hd hw
    omega
  · exact Or.inr ⟨q4, q6, lo⟩
/-- counted levels that are worth W or more -/
def ck (d : MD) (p W : Int) (v : Nat) : Nat → Nat → Nat
  | 0, _ => 0
  | r + 1, k => (if (d.pr (6 * v + k) ≤ p ∧ 0 < d.sz (6 * v + k)) ∧ W ≤ d.pr (6 * v + k) + lf d v then 1 else 0) + ck d p W v r (k + 1)
def ct (d : MD) (p W : Int) : Nat → Nat → Nat
  | 0, _ => 0
  | r + 1, v => ck d p W v (d.lv v) 0 + ct d p W r (v + 1)
theorem ck_le {d : MD} {p W : Int} {v : Nat} : ∀ (r k : Nat), ck d p W v r k ≤ r
  | 0, _ => Nat.le_refl _
  | r + 1, k => by
    have := ck_le (d := d) (p := p) (W := W) (v := v) r (k + 1)
    unfold ck
    split <;> omega
theorem ct_le {d : MD} {p W : Int} {V : Nat} (hd : MDok d V) : ∀ (r v : Nat), v + r = V → ct d p W r v ≤ 6 * r
  | 0, _, _ => Nat.le_refl _
  | r + 1, v, h => by
    have := ct_le (p := p) (W := W) hd r (v + 1) (by omega)
    have b := ck_le (d := d) (p := p) (W := W) (v := v) (d.lv v) 0
    obtain ⟨-, -, -, -, f, -⟩ := hd.2 v (by omega)
    unfold ct
    omega
theorem ck_mono {d : MD} {p W X : Int} {v : Nat} (h : W ≤ X) : ∀ (r k : Nat), ck d p X v r k ≤ ck d p W v r k
  | 0, _ => Nat.le_refl _
  | r + 1, k => by
    have := ck_mono (d := d) (p := p) (v := v) h r (k + 1)
    unfold ck
    split
    · rename_i c
      rw [if_pos ⟨c.1, by omega⟩]
      omega
    · omega
theorem ck_lt {d : MD} {p W x : Int} {v j : Nat} (h : W ≤ x) (hc : cn d p v j) (e : d.pr (6 * v + j) + lf d v = x) : ∀ (r k : Nat), k ≤ j → j < k + r → ck d p (x + 1) v r k + 1 ≤ ck d p W v r k
  | 0, k, h1, h2 => absurd h2 (by omega)
  | r + 1, k, h1, h2 => by
    unfold ck
    by_cases c : j = k
    · subst c
      have m := ck_mono (d := d) (p := p) (v := v) (show W ≤ x + 1 by omega) r (j + 1)
      rw [if_neg (fun q => absurd q.2 (by omega)), if_pos ⟨hc, by omega⟩]
      omega
    · have ih := ck_lt h hc e r (k + 1) (by omega) (by omega)
      split
      · rename_i c2
        rw [if_pos ⟨c2.1, by omega⟩]
        omega
      · omega
theorem ct_mono {d : MD} {p W X : Int} (h : W ≤ X) : ∀ (r v : Nat), ct d p X r v ≤ ct d p W r v
  | 0, _ => Nat.le_refl _
  | r + 1, v => by
    have := ct_mono (d := d) (p := p) h r (v + 1)
    have m := ck_mono (d := d) (p := p) (v := v) h (d.lv v) 0
    unfold ct
    omega
theorem ct_lt {d : MD} {p W x : Int} {a j : Nat} (h : W ≤ x) (hj : j < d.lv a) (hc : cn d p a j) (e : d.pr (6 * a + j) + lf d a = x) : ∀ (r v : Nat), v ≤ a → a < v + r → ct d p (x + 1) r v + 1 ≤ ct d p W r v
  | 0, v, h1, h2 => absurd h2 (by omega)
  | r + 1, v, h1, h2 => by
    unfold ct
    by_cases c : a = v
    · subst c
      have m := ct_mono (d := d) (p := p) (show W ≤ x + 1 by omega) r (a + 1)
      have l := ck_lt h hc e (d.lv a) 0 (by omega) (by omega)
      omega
    · have ih := ct_lt h hj hc e r (v + 1) (by omega) (by omega)
      have m := ck_mono (d := d) (p := p) (v := v) (show W ≤ x + 1 by omega) (d.lv v) 0
      omega
