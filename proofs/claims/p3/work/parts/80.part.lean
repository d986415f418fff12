/-! PURE: a part: dropped, sent -/
def dropW (r v : Nat) (σ : Wd) : Wd := wi (wi (wi (wi (wi (wi (wi (wi σ (r + 1) v (I 0)) (r + 2) v (I 0)) (r + 3) v (I 0)) (r + 4) v (I 0)) (r + 5) v (I 0)) (r + 6) v (I 0)) (r + 7) v (I (-2))) (r + 8) v (I (-2))
theorem cDrop {r v : Nat} {σ : Wd} (hv : v < 5) : f_X4_drop r (I (v : Int)) σ = some (0, dropW r v σ) := by
  unfold f_X4_drop dropW
  simp (disch := omega) only [gd_t, bd_s, nm_W, nm_I, I_add, I_sub, I_mul, I_neg, I_le_t, I_le_f, I_lt_t, I_lt_f, I_eq_t, I_eq_f, I_inb', I_ix', Int.toNat_natCast, decide_true, decide_false, Bool.not_false, Bool.not_true, if_true, if_false, wi_eq, wi_eq', wi_ne, wi_row, wi_2, N0, N1, N2, N3, N4, N5, N6, N7, N8, N9, N10, N11, N12, N13, N14, N15, N16, N17, N18, N19, N20, N21, N22, N23, N24, N25, N26, N27, N28, N29, N30, N31, N32, N33, N34, N35, N36, N37, N38, N39, N40, N41, N42, N43, N45, N48, N57, N59, N88, N89, N97, N99, N120, N121, N122, N179, N200, N255, N300, N400, N880, N900, N999, N1019, N50000000, N100000000, N1000000000, N2147483647, N2147483648]
theorem drop_at {r v : Nat} {σ : Wd} : (dropW r v σ).1 (r + 1) v = I 0 ∧ (dropW r v σ).1 (r + 2) v = I 0 ∧ (dropW r v σ).1 (r + 3) v = I 0 ∧ (dropW r v σ).1 (r + 4) v = I 0 ∧ (dropW r v σ).1 (r + 5) v = I 0 ∧ (dropW r v σ).1 (r + 6) v = I 0 ∧ (dropW r v σ).1 (r + 7) v = I (-2) ∧ (dropW r v σ).1 (r + 8) v = I (-2) := by
  unfold dropW
  refine ⟨?_, ?_, ?_, ?_, ?_, ?_, ?_, ?_⟩ <;> simp (disch := omega) only [wi_eq, wi_eq', wi_ne, wi_row, wi_2]
theorem drop_row {r v k : Nat} {σ : Wd} (h : k < r + 1 ∨ r + 8 < k) : (dropW r v σ).1 k = σ.1 k := by
  unfold dropW
  simp (disch := omega) only [wi_eq, wi_eq', wi_ne, wi_row, wi_2]
theorem drop_ne {r v w k : Nat} {σ : Wd} (h : w ≠ v) : (dropW r v σ).1 k w = σ.1 k w := by
  unfold dropW
  have key : ∀ (σ : Wd) (a : Nat) (x : Int32), (wi σ a v x).1 k w = σ.1 k w := by
    intro σ a x
    by_cases c : k = a
    · rw [c, wi_ne h]
    · rw [wi_row c]
  rw [key, key, key, key, key, key, key, key]
theorem drop_2 {r v : Nat} {σ : Wd} : (dropW r v σ).2 = σ.2 := rfl
theorem r_clr1 {v : Nat} (hv : v < 5) : ∀ (r j n : Nat) (z : Int) (τ : Wd), z = (j : Int) → j + r = 8 → r < n → (∀ i, i < j → τ.1 112 (48 + 8 * v + i) = I 0) →
    ∃ τ', f_X7_clearsPart_2 n (I (v : Int)) (I z) τ = some (0, τ') ∧ (∀ i, i < 8 → i ≠ 5 → i ≠ 6 → τ'.1 112 (48 + 8 * v + i) = I 0) ∧ τ'.1 112 (48 + 8 * v + 5) = I (-2) ∧ τ'.1 112 (48 + 8 * v + 6) = I (-2)
      ∧ (∀ i, i < 48 + 8 * v ∨ 56 + 8 * v ≤ i → τ'.1 112 i = τ.1 112 i) ∧ (∀ k, k ≠ 112 → τ'.1 k = τ.1 k) ∧ τ'.2 = τ.2
  | 0, j, n + 1, z, τ, hz, hj, _, h => by
    have t1 : ((48 : Int) + 8 * (v : Int) + 5).toNat = 48 + 8 * v + 5 := by omega
    have t2 : ((48 : Int) + 8 * (v : Int) + 6).toNat = 48 + 8 * v + 6 := by omega
    refine ⟨wi (wi τ 112 (48 + 8 * v + 5) (I (-2))) 112 (48 + 8 * v + 6) (I (-2)), ?_, fun i h1 h2 h3 => ?_, ?_, ?_, fun i hi => ?_, fun k hk => ?_, ?_⟩
    · rw [f_X7_clearsPart_2]
      simp (disch := omega) only [gd_t, bd_s, nm_W, nm_I, I_add, I_sub, I_mul, I_neg, I_le_t, I_le_f, I_lt_t, I_lt_f, I_eq_t, I_eq_f, I_inb', I_ix', Int.toNat_natCast, decide_true, decide_false, Bool.not_false, Bool.not_true, if_true, if_false, wi_eq, wi_eq', wi_ne, wi_row, wi_2, N0, N1, N2, N3, N4, N5, N6, N7, N8, N9, N10, N11, N12, N13, N14, N15, N16, N17, N18, N19, N20, N21, N22, N23, N24, N25, N26, N27, N28, N29, N30, N31, N32, N33, N34, N35, N36, N37, N38, N39, N40, N41, N42, N43, N45, N48, N57, N59, N88, N89, N97, N99, N120, N121, N122, N179, N200, N255, N300, N400, N880, N900, N999, N1019, N50000000, N100000000, N1000000000, N2147483647, N2147483648, f_X7_partAt, t1, t2]
    · simp (disch := omega) only [wi_eq, wi_eq', wi_ne, wi_row, wi_2]
      exact h i (by omega)
    · simp (disch := omega) only [wi_eq, wi_eq', wi_ne, wi_row, wi_2]
    · simp (disch := omega) only [wi_eq, wi_eq', wi_ne, wi_row, wi_2]
    · simp (disch := omega) only [wi_eq, wi_eq', wi_ne, wi_row, wi_2]
    · simp (disch := omega) only [wi_eq, wi_eq', wi_ne, wi_row, wi_2]
    · simp (disch := omega) only [wi_eq, wi_eq', wi_ne, wi_row, wi_2]
  | r + 1, j, n + 1, z, τ, hz, hj, hn, h => by
    have t1 : ((48 : Int) + 8 * (v : Int) + z).toNat = 48 + 8 * v + j := by omega
    obtain ⟨τ', q1, q2, q3, q4, q5, q6, q7⟩ := r_clr1 hv r (j + 1) n (z + 1) (wi τ 112 (48 + 8 * v + j) (I 0)) (by omega) (by omega) (by omega) (fun i hi => by
      by_cases c : i = j
      · rw [c, wi_eq]
      · rw [wi_ne (by omega)]; exact h i (by omega))
    refine ⟨τ', ?_, q2, q3, q4, fun i hi => by rw [q5 i hi, wi_ne (by omega)], fun k hk => by rw [q6 k hk, wi_row hk], by rw [q7, wi_2]⟩
    rw [← q1, f_X7_clearsPart_2]
    simp (disch := omega) only [gd_t, bd_s, nm_W, nm_I, I_add, I_sub, I_mul, I_neg, I_le_t, I_le_f, I_lt_t, I_lt_f, I_eq_t, I_eq_f, I_inb', I_ix', Int.toNat_natCast, decide_true, decide_false, Bool.not_false, Bool.not_true, if_true, if_false, wi_eq, wi_eq', wi_ne, wi_row, wi_2, N0, N1, N2, N3, N4, N5, N6, N7, N8, N9, N10, N11, N12, N13, N14, N15, N16, N17, N18, N19, N20, N21, N22, N23, N24, N25, N26, N27, N28, N29, N30, N31, N32, N33, N34, N35, N36, N37, N38, N39, N40, N41, N42, N43, N45, N48, N57, N59, N88, N89, N97, N99, N120, N121, N122, N179, N200, N255, N300, N400, N880, N900, N999, N1019, N50000000, N100000000, N1000000000, N2147483647, N2147483648, f_X7_partAt, t1]
theorem rClr {v : Nat} {τ : Wd} (hv : v < 5) : ∃ τ', f_X7_clearsPart (I (v : Int)) τ = some (0, τ') ∧ (∀ i, i < 8 → i ≠ 5 → i ≠ 6 → τ'.1 112 (48 + 8 * v + i) = I 0) ∧ τ'.1 112 (48 + 8 * v + 5) = I (-2) ∧ τ'.1 112 (48 + 8 * v + 6) = I (-2)
      ∧ (∀ i, i < 48 + 8 * v ∨ 56 + 8 * v ≤ i → τ'.1 112 i = τ.1 112 i) ∧ (∀ k, k ≠ 112 → τ'.1 k = τ.1 k) ∧ τ'.2 = τ.2 :=
  r_clr1 hv 8 0 FU 0 τ rfl rfl (by decide) (fun i hi => absurd hi (by omega))
/-! the relation of class (market m, run r, in σ) and reference (in τ) -/
def QM (m : Nat) (σ τ : Wd) (V : Nat) (d : MD) (p L W : Int) (dl pl : Nat → Int) : Prop :=
  MDok d V ∧ CV m σ V d ∧ RV τ V d ∧ (σ.1 m 1 = I p ∧ τ.1 102 12 = I p ∧ 0 ≤ p ∧ p ≤ 999) ∧ (σ.1 m 2 = I L ∧ τ.1 102 13 = I L ∧ 0 ≤ L ∧ L ≤ 20 ∧ (0 < V → 1 ≤ L)) ∧ (σ.1 m 0 = I W ∧ τ.1 112 35 = I W ∧ 0 ≤ W ∧ W ≤ 120)
  ∧ (∀ v, v < V → σ.1 (m + 5) v = I (dl v) ∧ τ.1 103 (5 * v + 3) = I (dl v) ∧ 1 ≤ dl v ∧ dl v ≤ 9) ∧ (∀ v, v < V → σ.1 (m + 7) v = I (pl v) ∧ τ.1 112 (43 + v) = I (pl v) ∧ 0 ≤ pl v ∧ pl v ≤ 120)
def QE (m : Nat) (σ τ : Wd) (V E : Nat) (lv : Nat → Nat) (et : Nat → Int) : Prop :=
  E ≤ 10 ∧ σ.1 m 4 = I (E : Int) ∧ τ.1 102 15 = I (E : Int) ∧ (∀ i, i < E → ∃ (a k : Nat) (z : Int), a < V ∧ k < lv a ∧ 0 ≤ z ∧ z ≤ 99 ∧ 1 ≤ et i ∧ et i ≤ 200 ∧ σ.1 (m + 10) i = I (et i) ∧ τ.1 105 (4 * i) = I (et i) ∧ σ.1 (m + 11) i = I ((6 * a + k : Nat) : Int) ∧ τ.1 105 (4 * i + 1) = I (a : Int) ∧ τ.1 105 (4 * i + 2) = I (k : Int) ∧ σ.1 (m + 12) i = I z ∧ τ.1 105 (4 * i + 3) = I z)
  ∧ (∀ i, i + 1 < E → et i ≤ et (i + 1))
def QR (r : Nat) (σ τ : Wd) (b : Bool) (t s : Int) : Prop :=
  (σ.1 r 0 = I (bn b) ∧ τ.1 112 36 = I (bn b)) ∧ (σ.1 r 1 = I t ∧ τ.1 112 37 = I t ∧ 0 ≤ t ∧ t ≤ 1000000) ∧ (σ.1 r 2 = I s ∧ τ.1 112 38 = I s ∧ 0 ≤ s ∧ s ≤ 120) ∧ τ.1 112 39 = σ.1 r 3 ∧ τ.1 112 40 = σ.1 r 4 ∧ τ.1 112 41 = σ.1 r 5 ∧ τ.1 112 42 = σ.1 r 6
def QN (r : Nat) (σ : Wd) (E : Nat) (et : Nat → Int) (t : Int) : Prop := ∃ np : Nat, σ.1 r 7 = I (np : Int) ∧ np ≤ E ∧ (∀ i, i < np → et i ≤ t) ∧ (∀ i, np ≤ i → i < E → t < et i)
/-- a part; tb: what its time is surely past -/
def QP (r : Nat) (σ τ : Wd) (tb t : Int) (v : Nat) (h n g : Int) : Prop :=
  (σ.1 (r + 1) v = I h ∧ τ.1 112 (48 + 8 * v) = I h) ∧ (σ.1 (r + 2) v = I n ∧ τ.1 112 (49 + 8 * v) = I n) ∧ (σ.1 (r + 3) v = I g ∧ τ.1 112 (50 + 8 * v) = I g) ∧ τ.1 112 (51 + 8 * v) = σ.1 (r + 5) v
  ∧ (∃ c, 0 ≤ c ∧ c ≤ 999 ∧ σ.1 (r + 6) v = I c ∧ τ.1 112 (52 + 8 * v) = I c)
  ∧ (∃ u k, σ.1 (r + 7) v = I u ∧ τ.1 112 (53 + 8 * v) = I u ∧ -2 ≤ u ∧ u ≤ t + 20 ∧ (h ≠ 0 → tb < u) ∧ τ.1 112 (54 + 8 * v) = I k ∧ -2 ≤ k ∧ k ≤ t + 9 ∧ (h = 1 ∨ h = 2 → σ.1 (r + 8) v = I k ∧ (k = -2 ∨ tb < k)) ∧ (h = 1 → (k ≠ -2 → u ≤ k) ∧ u ≤ t + (τ.1 103 (5 * v + 3)).toInt) ∧ (h = 0 → σ.1 (r + 8) v = I (-2) ∧ k = -2))
  ∧ (h = 1 ∨ h = 2 → τ.1 112 (55 + 8 * v) = σ.1 (r + 4) v)
  ∧ n ≤ 120 ∧ ((h = 0 ∧ n = 0 ∧ g = 0) ∨ (h = 1 ∧ 1 ≤ n ∧ g = 0) ∨ (h = 2 ∧ 1 ≤ n ∧ 0 ≤ g ∧ g < n) ∨ (h = 3 ∧ 1 ≤ n ∧ 0 ≤ g ∧ g ≤ n))
/-! frames -/
theorem QM_congr {m : Nat} {σ τ σ' τ' : Wd} {V : Nat} {d d' : MD} {p L W : Int} {dl pl : Nat → Int} (h : QM m σ τ V d p L W dl pl) (hd : MDok d' V) (hc : CV m σ' V d') (hr : RV τ' V d')
    (c0 : ∀ i, i < 3 → σ'.1 m i = σ.1 m i) (c5 : σ'.1 (m + 5) = σ.1 (m + 5)) (c7 : σ'.1 (m + 7) = σ.1 (m + 7)) (r0 : τ'.1 102 12 = τ.1 102 12) (r1 : τ'.1 102 13 = τ.1 102 13) (r3 : τ'.1 103 = τ.1 103) (rw : τ'.1 112 35 = τ.1 112 35) (rp : ∀ v, v < 5 → τ'.1 112 (43 + v) = τ.1 112 (43 + v)) : QM m σ' τ' V d' p L W dl pl := by
  obtain ⟨h1, h2, h3, h4, h5, h6, h7, h8⟩ := h
  refine ⟨hd, hc, hr, ?_, ?_, ?_, fun v hv => ?_, fun v hv => ?_⟩
  · rw [c0 1 (by omega), r0]; exact h4
  · rw [c0 2 (by omega), r1]; exact h5
  · rw [c0 0 (by omega), rw]; exact h6
  · rw [c5, r3]; exact h7 v hv
  · rw [c7, rp v (by have := h1.1; omega)]; exact h8 v hv
theorem QE_congr {m : Nat} {σ τ σ' τ' : Wd} {V E : Nat} {lv : Nat → Nat} {et : Nat → Int} (h : QE m σ τ V E lv et) (c4 : σ'.1 m 4 = σ.1 m 4) (c10 : σ'.1 (m + 10) = σ.1 (m + 10)) (c11 : σ'.1 (m + 11) = σ.1 (m + 11)) (c12 : σ'.1 (m + 12) = σ.1 (m + 12)) (r0 : τ'.1 102 15 = τ.1 102 15) (r5 : τ'.1 105 = τ.1 105) : QE m σ' τ' V E lv et := by
  unfold QE at h ⊢
  rw [c4, c10, c11, c12, r0, r5]
  exact h
theorem QP_congr {r : Nat} {σ τ σ' τ' : Wd} {tb t : Int} {v : Nat} {h n g : Int} (q : QP r σ τ tb t v h n g) (c : ∀ k, r + 1 ≤ k → k ≤ r + 8 → σ'.1 k v = σ.1 k v) (e : ∀ i, 48 + 8 * v ≤ i → i < 56 + 8 * v → τ'.1 112 i = τ.1 112 i) (e3 : τ'.1 103 = τ.1 103) : QP r σ' τ' tb t v h n g := by
  unfold QP at q ⊢
  rw [c (r + 1) (by omega) (by omega), c (r + 2) (by omega) (by omega), c (r + 3) (by omega) (by omega), c (r + 4) (by omega) (by omega), c (r + 5) (by omega) (by omega), c (r + 6) (by omega) (by omega), c (r + 7) (by omega) (by omega), c (r + 8) (by omega) (by omega),
    e (48 + 8 * v) (by omega) (by omega), e (49 + 8 * v) (by omega) (by omega), e (50 + 8 * v) (by omega) (by omega), e (51 + 8 * v) (by omega) (by omega), e (52 + 8 * v) (by omega) (by omega), e (53 + 8 * v) (by omega) (by omega), e (54 + 8 * v) (by omega) (by omega), e (55 + 8 * v) (by omega) (by omega), e3]
  exact q
theorem LR_congr {b : Nat} {σ τ σ' τ' : Wd} {V : Nat} {d d' : MD} (h : LR b σ τ V d) (elv : d'.lv = d.lv) (epr : d'.pr = d.pr) (c : ∀ k, b ≤ k → k ≤ b + 3 → σ'.1 k = σ.1 k) (e : ∀ i, 88 ≤ i → τ'.1 112 i = τ.1 112 i) : LR b σ' τ' V d' := by
  obtain ⟨cc, sl, h1, h2, h3, h4, h5⟩ := h
  refine ⟨cc, sl, h1, by rw [c b (by omega) (by omega)]; exact h2, by rw [e 88 (by omega)]; exact h3, fun i hi => ?_, h5⟩
  rw [c (b + 1) (by omega) (by omega), c (b + 2) (by omega) (by omega), c (b + 3) (by omega) (by omega), e (89 + 3 * i) (by omega), e (90 + 3 * i) (by omega), e (91 + 3 * i) (by omega), elv, epr]
  exact h4 i hi
