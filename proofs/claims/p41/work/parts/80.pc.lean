section
/-! PURE: a part: dropped, sent -/
def dropW (r v : Nat) (σ : Wd) : Wd := wi (wi (wi (wi (wi (wi (wi (wi σ (r + 1) v (I 0)) (r + 2) v (I 0)) (r + 3) v (I 0)) (r + 4) v (I 0)) (r + 5) v (I 0)) (r + 6) v (I 0)) (r + 7) v (I (-2))) (r + 8) v (I (-2))
theorem cDrop {r v : Nat} {σ : Wd} (hv : v < 5) : f_X4_drop r (I (v : Int)) σ = some (0, dropW r v σ) := by
  unfold f_X4_drop dropW
  simp (disch := omega) only [↓reduceIte, gd_t, bd_s, nm_W, nm_I, I_add, I_sub, I_mul, I_neg, I_le_t, I_le_f, I_lt_t, I_lt_f, I_eq_t, I_eq_f, I_inb', I_ix', Int.toNat_natCast, decide_true, decide_false, Bool.not_false, Bool.not_true, if_true, if_false, wi_eq, wi_eq', wi_ne, wi_row, wi_2, N0, N1, N2, N3, N4, N5, N6, N7, N8, N9, N10, N11, N12, N13, N14, N15, N16, N17, N18, N19, N20, N21, N22, N23, N24, N25, N26, N27, N28, N29, N30, N31, N32, N33, N34, N35, N36, N37, N38, N39, N40, N41, N42, N43, N45, N48, N57, N59, N88, N89, N97, N99, N120, N121, N122, N179, N200, N255, N300, N400, N880, N900, N999, N1019, N50000000, N100000000, N1000000000, N2147483647, N2147483648]
theorem drop_at {r v : Nat} {σ : Wd} : (dropW r v σ).1 (r + 1) v = I 0 ∧ (dropW r v σ).1 (r + 2) v = I 0 ∧ (dropW r v σ).1 (r + 3) v = I 0 ∧ (dropW r v σ).1 (r + 4) v = I 0 ∧ (dropW r v σ).1 (r + 5) v = I 0 ∧ (dropW r v σ).1 (r + 6) v = I 0 ∧ (dropW r v σ).1 (r + 7) v = I (-2) ∧ (dropW r v σ).1 (r + 8) v = I (-2) := by
  unfold dropW
  refine ⟨?_, ?_, ?_, ?_, ?_, ?_, ?_, ?_⟩ <;> simp (disch := omega) only [wi_eq, wi_eq', wi_ne, wi_row, wi_2]
theorem drop_row {r v k : Nat} {σ : Wd} (h : k < r + 1 ∨ r + 8 < k) : (dropW r v σ).1 k = σ.1 k := by
  unfold dropW
  simp (disch := omega) only [wi_eq, wi_eq', wi_ne, wi_row, wi_2]
theorem drop_ne {r v w k : Nat} {σ : Wd} (h : w ≠ v) : (dropW r v σ).1 k w = σ.1 k w := by
  unfold dropW
  have key : ∀ (σ : Wd) (a : Nat) (x : Int32), (wi σ a v x).1 k w = σ.1 k w := by
    intro σ a x
    by_cases c : k = a
    · rw [c, wi_ne h]
    · rw [wi_row c]
  rw [key, key, key, key, key, key, key, key]
theorem drop_2 {r v : Nat} {σ : Wd} : (dropW r v σ).2 = σ.2 := rfl
theorem r_clr1 {v : Nat} (hv : v < 5) : ∀ (r j n : Nat) (z : Int) (τ : Wd), z = (j : Int) → j + r = 8 → r < n → (∀ i, i < j → τ.1 112 (48 + 8 * v + i) = I 0) →
    ∃ τ', f_X7_clearsPart_2 n (I (v : Int)) (I z) τ = some (0, τ') ∧ (∀ i, i < 8 → i ≠ 5 → i ≠ 6 → τ'.1 112 (48 + 8 * v + i) = I 0) ∧ τ'.1 112 (48 + 8 * v + 5) = I (-2) ∧ τ'.1 112 (48 + 8 * v + 6) = I (-2)
      ∧ (∀ i, i < 48 + 8 * v ∨ 56 + 8 * v ≤ i → τ'.1 112 i = τ.1 112 i) ∧ (∀ k, k ≠ 112 → τ'.1 k = τ.1 k) ∧ τ'.2 = τ.2
  | 0, j, n + 1, z, τ, hz, hj, _, h => by
    have t1 : ((48 : Int) + 8 * (v : Int) + 5).toNat = 48 + 8 * v + 5 := by omega
    have t2 : ((48 : Int) + 8 * (v : Int) + 6).toNat = 48 + 8 * v + 6 := by omega
    refine ⟨wi (wi τ 112 (48 + 8 * v + 5) (I (-2))) 112 (48 + 8 * v + 6) (I (-2)), ?_, fun i h1 h2 h3 => ?_, ?_, ?_, fun i hi => ?_, fun k hk => ?_, ?_⟩
    · rw [f_X7_clearsPart_2]
      simp (disch := omega) only [↓reduceIte, gd_t, bd_s, nm_W, nm_I, I_add, I_sub, I_mul, I_neg, I_le_t, I_le_f, I_lt_t, I_lt_f, I_eq_t, I_eq_f, I_inb', I_ix', Int.toNat_natCast, decide_true, decide_false, Bool.not_false, Bool.not_true, if_true, if_false, wi_eq, wi_eq', wi_ne, wi_row, wi_2, N0, N1, N2, N3, N4, N5, N6, N7, N8, N9, N10, N11, N12, N13, N14, N15, N16, N17, N18, N19, N20, N21, N22, N23, N24, N25, N26, N27, N28, N29, N30, N31, N32, N33, N34, N35, N36, N37, N38, N39, N40, N41, N42, N43, N45, N48, N57, N59, N88, N89, N97, N99, N120, N121, N122, N179, N200, N255, N300, N400, N880, N900, N999, N1019, N50000000, N100000000, N1000000000, N2147483647, N2147483648, f_X7_partAt, t1, t2]
    · simp (disch := omega) only [wi_eq, wi_eq', wi_ne, wi_row, wi_2]
      exact h i (by omega)
    · simp (disch := omega) only [wi_eq, wi_eq', wi_ne, wi_row, wi_2]
    · simp (disch := omega) only [wi_eq, wi_eq', wi_ne, wi_row, wi_2]
    · simp (disch := omega) only [wi_eq, wi_eq', wi_ne, wi_row, wi_2]
    · simp (disch := omega) only [wi_eq, wi_eq', wi_ne, wi_row, wi_2]
    · simp (disch := omega) only [wi_eq, wi_eq', wi_ne, wi_row, wi_2]
  | r + 1, j, n + 1, z, τ, hz, hj, hn, h => by
    have t1 : ((48 : Int) + 8 * (v : Int) + z).toNat = 48 + 8 * v + j := by omega
    obtain ⟨τ', q1, q2, q3, q4, q5, q6, q7⟩ := r_clr1 hv r (j + 1) n (z + 1) (wi τ 112 (48 + 8 * v + j) (I 0)) (by omega) (by omega) (by omega) (fun i hi => by
      by_cases c : i = j
      · rw [c, wi_eq]
      · rw [wi_ne (by omega)]; exact h i (by omega))
    refine ⟨τ', ?_, q2, q3, q4, fun i hi => by rw [q5 i hi, wi_ne (by omega)], fun k hk => by rw [q6 k hk, wi_row hk], by rw [q7, wi_2]⟩
    rw [← q1, f_X7_clearsPart_2]
    simp (disch := omega) only [↓reduceIte, gd_t, bd_s, nm_W, nm_I, I_add, I_sub, I_mul, I_neg, I_le_t, I_le_f, I_lt_t, I_lt_f, I_eq_t, I_eq_f, I_inb', I_ix', Int.toNat_natCast, decide_true, decide_false, Bool.not_false, Bool.not_true, if_true, if_false, wi_eq, wi_eq', wi_ne, wi_row, wi_2, N0, N1, N2, N3, N4, N5, N6, N7, N8, N9, N10, N11, N12, N13, N14, N15, N16, N17, N18, N19, N20, N21, N22, N23, N24, N25, N26, N27, N28, N29, N30, N31, N32, N33, N34, N35, N36, N37, N38, N39, N40, N41, N42, N43, N45, N48, N57, N59, N88, N89, N97, N99, N120, N121, N122, N179, N200, N255, N300, N400, N880, N900, N999, N1019, N50000000, N100000000, N1000000000, N2147483647, N2147483648, f_X7_partAt, t1]
theorem rClr {v : Nat} {τ : Wd} (hv : v < 5) : ∃ τ', f_X7_clearsPart (I (v : Int)) τ = some (0, τ') ∧ (∀ i, i < 8 → i ≠ 5 → i ≠ 6 → τ'.1 112 (48 + 8 * v + i) = I 0) ∧ τ'.1 112 (48 + 8 * v + 5) = I (-2) ∧ τ'.1 112 (48 + 8 * v + 6) = I (-2)
      ∧ (∀ i, i < 48 + 8 * v ∨ 56 + 8 * v ≤ i → τ'.1 112 i = τ.1 112 i) ∧ (∀ k, k ≠ 112 → τ'.1 k = τ.1 k) ∧ τ'.2 = τ.2 :=
  r_clr1 hv 8 0 FU 0 τ rfl rfl (by decide) (fun i hi => absurd hi (by omega))
/-! the relation of class (market m, run r, in σ) and reference (in τ) -/
def QM (m : Nat) (σ τ : Wd) (V : Nat) (d : MD) (p L W : Int) (dl pl : Nat → Int) : Prop :=
  MDok d V ∧ CV m σ V d ∧ RV τ V d ∧ (σ.1 m 1 = I p ∧ τ.1 102 12 = I p ∧ 0 ≤ p ∧ p ≤ 999) ∧ (σ.1 m 2 = I L ∧ τ.1 102 13 = I L ∧ 0 ≤ L ∧ L ≤ 20 ∧ (0 < V → 1 ≤ L)) ∧ (σ.1 m 0 = I W ∧ τ.1 112 35 = I W ∧ 0 ≤ W ∧ W ≤ 120)
  ∧ (∀ v, v < V → σ.1 (m + 5) v = I (dl v) ∧ τ.1 103 (5 * v + 3) = I (dl v) ∧ 1 ≤ dl v ∧ dl v ≤ 9) ∧ (∀ v, v < V → σ.1 (m + 7) v = I (pl v) ∧ τ.1 112 (43 + v) = I (pl v) ∧ 0 ≤ pl v ∧ pl v ≤ 120)
def QE (m : Nat) (σ τ : Wd) (V E : Nat) (lv : Nat → Nat) (et : Nat → Int) : Prop :=
  E ≤ 10 ∧ σ.1 m 4 = I (E : Int) ∧ τ.1 102 15 = I (E : Int) ∧ (∀ i, i < E → ∃ (a k : Nat) (z : Int), a < V ∧ k < lv a ∧ 0 ≤ z ∧ z ≤ 99 ∧ 1 ≤ et i ∧ et i ≤ 200 ∧ σ.1 (m + 10) i = I (et i) ∧ τ.1 105 (4 * i) = I (et i) ∧ σ.1 (m + 11) i = I ((6 * a + k : Nat) : Int) ∧ τ.1 105 (4 * i + 1) = I (a : Int) ∧ τ.1 105 (4 * i + 2) = I (k : Int) ∧ σ.1 (m + 12) i = I z ∧ τ.1 105 (4 * i + 3) = I z)
  ∧ (∀ i, i + 1 < E → et i ≤ et (i + 1))
def QR (r : Nat) (σ τ : Wd) (b : Bool) (t s : Int) : Prop :=
  (σ.1 r 0 = I (bn b) ∧ τ.1 112 36 = I (bn b)) ∧ (σ.1 r 1 = I t ∧ τ.1 112 37 = I t ∧ 0 ≤ t ∧ t ≤ 1000000) ∧ (σ.1 r 2 = I s ∧ τ.1 112 38 = I s ∧ 0 ≤ s ∧ s ≤ 120) ∧ τ.1 112 39 = σ.1 r 3 ∧ τ.1 112 40 = σ.1 r 4 ∧ τ.1 112 41 = σ.1 r 5 ∧ τ.1 112 42 = σ.1 r 6
def QN (r : Nat) (σ : Wd) (E : Nat) (et : Nat → Int) (t : Int) : Prop := ∃ np : Nat, σ.1 r 7 = I (np : Int) ∧ np ≤ E ∧ (∀ i, i < np → et i ≤ t) ∧ (∀ i, np ≤ i → i < E → t < et i)
/-- a part; tb: what its time is surely past -/
def QP (r : Nat) (σ τ : Wd) (tb t : Int) (v : Nat) (h n g : Int) : Prop :=
  (σ.1 (r + 1) v = I h ∧ τ.1 112 (48 + 8 * v) = I h) ∧ (σ.1 (r + 2) v = I n ∧ τ.1 112 (49 + 8 * v) = I n) ∧ (σ.1 (r + 3) v = I g ∧ τ.1 112 (50 + 8 * v) = I g) ∧ τ.1 112 (51 + 8 * v) = σ.1 (r + 5) v
  ∧ (∃ c, 0 ≤ c ∧ c ≤ 999 ∧ σ.1 (r + 6) v = I c ∧ τ.1 112 (52 + 8 * v) = I c)
  ∧ (∃ u k, σ.1 (r + 7) v = I u ∧ τ.1 112 (53 + 8 * v) = I u ∧ -2 ≤ u ∧ u ≤ t + 20 ∧ (h ≠ 0 → tb < u) ∧ τ.1 112 (54 + 8 * v) = I k ∧ -2 ≤ k ∧ k ≤ t + 9 ∧ (h = 1 ∨ h = 2 → σ.1 (r + 8) v = I k ∧ (k = -2 ∨ tb < k)) ∧ (h = 1 → (k ≠ -2 → u ≤ k) ∧ u ≤ t + (τ.1 103 (5 * v + 3)).toInt) ∧ (h = 0 → σ.1 (r + 8) v = I (-2) ∧ k = -2))
  ∧ (h = 1 ∨ h = 2 → τ.1 112 (55 + 8 * v) = σ.1 (r + 4) v)
  ∧ n ≤ 120 ∧ ((h = 0 ∧ n = 0 ∧ g = 0) ∨ (h = 1 ∧ 1 ≤ n ∧ g = 0) ∨ (h = 2 ∧ 1 ≤ n ∧ 0 ≤ g ∧ g < n) ∨ (h = 3 ∧ 1 ≤ n ∧ 0 ≤ g ∧ g ≤ n))
/-! frames -/
theorem QM_congr {m : Nat} {σ τ σ' τ' : Wd} {V : Nat} {d d' : MD} {p L W : Int} {dl pl : Nat → Int} (h : QM m σ τ V d p L W dl pl) (hd : MDok d' V) (hc : CV m σ' V d') (hr : RV τ' V d')
    (c0 : ∀ i, i < 3 → σ'.1 m i = σ.1 m i) (c5 : σ'.1 (m + 5) = σ.1 (m + 5)) (c7 : σ'.1 (m + 7) = σ.1 (m + 7)) (r0 : τ'.1 102 12 = τ.1 102 12) (r1 : τ'.1 102 13 = τ.1 102 13) (r3 : τ'.1 103 = τ.1 103) (rw : τ'.1 112 35 = τ.1 112 35) (rp : ∀ v, v < 5 → τ'.1 112 (43 + v) = τ.1 112 (43 + v)) : QM m σ' τ' V d' p L W dl pl := by
  obtain ⟨h1, h2, h3, h4, h5, h6, h7, h8⟩ := h
  refine ⟨hd, hc, hr, ?_, ?_, ?_, fun v hv => ?_, fun v hv => ?_⟩
  · rw [c0 1 (by omega), r0]; exact h4
  · rw [c0 2 (by omega), r1]; exact h5
  · rw [c0 0 (by omega), rw]; exact h6
  · rw [c5, r3]; exact h7 v hv
  · rw [c7, rp v (by have := h1.1; omega)]; exact h8 v hv
theorem QE_congr {m : Nat} {σ τ σ' τ' : Wd} {V E : Nat} {lv : Nat → Nat} {et : Nat → Int} (h : QE m σ τ V E lv et) (c4 : σ'.1 m 4 = σ.1 m 4) (c10 : σ'.1 (m + 10) = σ.1 (m + 10)) (c11 : σ'.1 (m + 11) = σ.1 (m + 11)) (c12 : σ'.1 (m + 12) = σ.1 (m + 12)) (r0 : τ'.1 102 15 = τ.1 102 15) (r5 : τ'.1 105 = τ.1 105) : QE m σ' τ' V E lv et := by
  unfold QE at h ⊢
  rw [c4, c10, c11, c12, r0, r5]
  exact h
theorem QP_congr {r : Nat} {σ τ σ' τ' : Wd} {tb t : Int} {v : Nat} {h n g : Int} (q : QP r σ τ tb t v h n g) (c : ∀ k, r + 1 ≤ k → k ≤ r + 8 → σ'.1 k v = σ.1 k v) (e : ∀ i, 48 + 8 * v ≤ i → i < 56 + 8 * v → τ'.1 112 i = τ.1 112 i) (e3 : τ'.1 103 = τ.1 103) : QP r σ' τ' tb t v h n g := by
  unfold QP at q ⊢
  rw [c (r + 1) (by omega) (by omega), c (r + 2) (by omega) (by omega), c (r + 3) (by omega) (by omega), c (r + 4) (by omega) (by omega), c (r + 5) (by omega) (by omega), c (r + 6) (by omega) (by omega), c (r + 7) (by omega) (by omega), c (r + 8) (by omega) (by omega),
    e (48 + 8 * v) (by omega) (by omega), e (49 + 8 * v) (by omega) (by omega), e (50 + 8 * v) (by omega) (by omega), e (51 + 8 * v) (by omega) (by omega), e (52 + 8 * v) (by omega) (by omega), e (53 + 8 * v) (by omega) (by omega), e (54 + 8 * v) (by omega) (by omega), e (55 + 8 * v) (by omega) (by omega), e3]
  exact q
theorem LR_congr {b : Nat} {σ τ σ' τ' : Wd} {V : Nat} {d d' : MD} (h : LR b σ τ V d) (elv : d'.lv = d.lv) (epr : d'.pr = d.pr) (c : ∀ k, b ≤ k → k ≤ b + 3 → σ'.1 k = σ.1 k) (e : ∀ i, 88 ≤ i → τ'.1 112 i = τ.1 112 i) : LR b σ' τ' V d' := by
  obtain ⟨cc, sl, h1, h2, h3, h4, h5⟩ := h
  refine ⟨cc, sl, h1, by rw [c b (by omega) (by omega)]; exact h2, by rw [e 88 (by omega)]; exact h3, fun i hi => ?_, h5⟩
  rw [c (b + 1) (by omega) (by omega), c (b + 2) (by omega) (by omega), c (b + 3) (by omega) (by omega), e (89 + 3 * i) (by omega), e (90 + 3 * i) (by omega), e (91 + 3 * i) (by omega), elv, epr]
  exact h4 i hi
end
section
/-! PURE: what a resting part buys -/
def dz (d : MD) (i : Nat) (x : Int) : MD := (d.1, d.2.1, d.2.2.1, fun j => if j = i then x else d.2.2.2 j)
theorem MDok_dz {d : MD} {V i : Nat} {x : Int} (h : MDok d V) (h1 : 0 ≤ x) (h2 : x ≤ 99) : MDok (dz d i x) V := by
  refine ⟨h.1, fun v hv => ?_⟩
  obtain ⟨a, b, c, e, f, g⟩ := h.2 v hv
  refine ⟨a, b, c, e, f, fun j g1 g2 => ?_⟩
  obtain ⟨s1, s2, p1, p2⟩ := g j g1 g2
  show 0 ≤ (if j = i then x else d.sz j) ∧ (if j = i then x else d.sz j) ≤ 99 ∧ _
  split
  · exact ⟨h1, h2, p1, p2⟩
  · exact ⟨s1, s2, p1, p2⟩
theorem CV_rows {m : Nat} {σ τ : Wd} {V : Nat} {d : MD} (h : CV m σ V d) (e : ∀ k, m ≤ k → k ≤ m + 9 → τ.1 k = σ.1 k) : CV m τ V d := by
  unfold CV at h ⊢
  rw [e m (by omega) (by omega), e (m + 1) (by omega) (by omega), e (m + 2) (by omega) (by omega), e (m + 3) (by omega) (by omega), e (m + 4) (by omega) (by omega), e (m + 6) (by omega) (by omega), e (m + 8) (by omega) (by omega), e (m + 9) (by omega) (by omega)]
  exact h
theorem CV_dz {m : Nat} {σ : Wd} {V i : Nat} {d : MD} {x : Int} (h : CV m σ V d) : CV m (wi σ (m + 9) i (I x)) V (dz d i x) := by
  refine ⟨by rw [wi_row (by omega)]; exact h.1, fun v hv => ?_⟩
  obtain ⟨a, b, c, e, f, g⟩ := h.2 v hv
  rw [wi_row (show m + 1 ≠ m + 9 by omega), wi_row (show m + 2 ≠ m + 9 by omega), wi_row (show m + 3 ≠ m + 9 by omega), wi_row (show m + 4 ≠ m + 9 by omega), wi_row (show m + 6 ≠ m + 9 by omega), wi_row (show m + 8 ≠ m + 9 by omega)]
  refine ⟨a, b, c, e, f, fun k hk => ⟨(g k hk).1, ?_⟩⟩
  show _ = I (if 6 * v + k = i then x else d.sz (6 * v + k))
  by_cases q : 6 * v + k = i
  · rw [if_pos q, q, wi_eq]
  · rw [if_neg q, wi_ne q]; exact (g k hk).2
theorem RV_dz {τ : Wd} {V i : Nat} {d : MD} {x : Int} (h : RV τ V d) (hi : i < 30) : RV (wi τ 112 i (I x)) V (dz d i x) := by
  refine ⟨by rw [wi_row (by decide)]; exact h.1, fun v hv => ?_⟩
  obtain ⟨a, b, c, e, f, g⟩ := h.2 v hv
  rw [wi_row (show 103 ≠ 112 by decide), wi_ne (show 30 + v ≠ i by omega), wi_row (show 104 ≠ 112 by decide)]
  refine ⟨a, b, c, e, f, fun k hk => ⟨(g k hk).1, ?_⟩⟩
  show _ = I (if 6 * v + k = i then x else d.sz (6 * v + k))
  by_cases q : 6 * v + k = i
  · rw [if_pos q, q, wi_eq]
  · rw [if_neg q, wi_ne q]; exact (g k hk).2
theorem RV_wi {τ : Wd} {V j : Nat} {d : MD} {x : Int32} (h : RV τ V d) (hV : V ≤ 5) (hl : ∀ v, v < V → d.lv v ≤ 6) (hj : 35 ≤ j) : RV (wi τ 112 j x) V d := by
  refine ⟨by rw [wi_row (by decide)]; exact h.1, fun v hv => ?_⟩
  obtain ⟨a, b, c, e, f, g⟩ := h.2 v hv
  have := hl v hv
  rw [wi_row (show 103 ≠ 112 by decide), wi_ne (show 30 + v ≠ j by omega), wi_row (show 104 ≠ 112 by decide)]
  refine ⟨a, b, c, e, f, fun k hk => ⟨(g k hk).1, ?_⟩⟩
  rw [wi_ne (show 6 * v + k ≠ j by omega)]
  exact (g k hk).2
theorem RV_cells {τ τ' : Wd} {V : Nat} {d : MD} (h : RV τ V d) (hV : V ≤ 5) (hl : ∀ v, v < V → d.lv v ≤ 6) (e1 : τ'.1 102 14 = τ.1 102 14) (e2 : τ'.1 103 = τ.1 103) (e3 : τ'.1 104 = τ.1 104) (e4 : ∀ i, i < 35 → τ'.1 112 i = τ.1 112 i) : RV τ' V d := by
  refine ⟨by rw [e1]; exact h.1, fun v hv => ?_⟩
  obtain ⟨a, b, c, e, f, g⟩ := h.2 v hv
  have := hl v hv
  rw [e2, e4 (30 + v) (by omega), e3]
  refine ⟨a, b, c, e, f, fun k hk => ⟨(g k hk).1, ?_⟩⟩
  rw [e4 (6 * v + k) (by omega)]
  exact (g k hk).2
theorem lv6 {d : MD} {V : Nat} (h : MDok d V) : ∀ v, v < V → d.lv v ≤ 6 := fun v hv => (h.2 v hv).2.2.2.2.1
def ts (sz : Nat → Int) : Nat → Nat → Int
  | 0, _ => 0
  | r + 1, i => sz i + ts sz r (i + 1)
theorem uz_ts {pr sz : Nat → Int} {p : Int} : ∀ (r i : Nat), lvOk pr sz r i → uz pr sz p r i ≤ ts sz r i
  | 0, _, _ => Int.le_refl _
  | r + 1, i, h => by
    have ih := uz_ts (p := p) r (i + 1) (fun j q1 q2 => h j (by omega) (by omega))
    obtain ⟨s1, -⟩ := h i (by omega) (by omega)
    unfold uz ts
    split <;> omega
theorem ts_congr {sz sz' : Nat → Int} : ∀ (r i : Nat), (∀ j, i ≤ j → sz' j = sz j) → ts sz' r i = ts sz r i
  | 0, _, _ => rfl
  | r + 1, i, h => by
    unfold ts
    rw [h i (Nat.le_refl _), ts_congr r (i + 1) (fun j hj => h j (by omega))]
theorem ts_nn {pr sz : Nat → Int} : ∀ (r i : Nat), lvOk pr sz r i → 0 ≤ ts sz r i
  | 0, _, _ => Int.le_refl _
  | r + 1, i, h => by
    have ih := ts_nn r (i + 1) (fun j q1 q2 => h j (by omega) (by omega))
    obtain ⟨s1, -⟩ := h i (by omega) (by omega)
    unfold ts
    omega
theorem addI0 (x : Int32) : x + I 0 = x := Int32.add_zero x
theorem addI2 (x : Int32) (a b : Int) : x + I a + I b = x + I (a + b) := by rw [Int32.add_assoc, I_add]
theorem bl_c {m r n1 v k : Nat} {left : Int} {d : MD} {σ : Wd} (v5 : v < 5) (l6 : d.lv v ≤ 6) (kl : k < d.lv v) (l0 : 0 ≤ left) (c0 : left ≤ 0) (e1 : σ.1 (m + 6) v = I (d.lv v : Int)) : f_X4_buy_57 r m (n1 + 1) (I (v : Int)) (I left) (I (k : Int)) σ = some (0, σ) := by
  rw [f_X4_buy_57]
  simp (disch := omega) only [↓reduceIte, gd_t, bd_s, nm_W, nm_I, I_add, I_sub, I_mul, I_neg, I_le_t, I_le_f, I_lt_t, I_lt_f, I_eq_t, I_eq_f, I_inb', I_ix', Int.toNat_natCast, decide_true, decide_false, Bool.not_false, Bool.not_true, if_true, if_false, wi_eq, wi_eq', wi_ne, wi_row, wi_2, N0, N1, N2, N3, N4, N5, N6, N7, N8, N9, N10, N11, N12, N13, N14, N15, N16, N17, N18, N19, N20, N21, N22, N23, N24, N25, N26, N27, N28, N29, N30, N31, N32, N33, N34, N35, N36, N37, N38, N39, N40, N41, N42, N43, N45, N48, N57, N59, N88, N89, N97, N99, N120, N121, N122, N179, N200, N255, N300, N400, N880, N900, N999, N1019, N50000000, N100000000, N1000000000, N2147483647, N2147483648, e1, f_X4_buy_214]
theorem bl_r {n2 v k : Nat} {left : Int} {x5 : Int32} {d : MD} {τ : Wd} (v5 : v < 5) (l6 : d.lv v ≤ 6) (kl : k < d.lv v) (l0 : 0 ≤ left) (c0 : left ≤ 0) (e2 : τ.1 103 (5 * v + 4) = I (d.lv v : Int)) : f_X7_buys_71 (n2 + 1) (I (v : Int)) (I (48 + 8 * (v : Int))) x5 (I left) (I (k : Int)) τ = f_X7_buys_208 (I (48 + 8 * (v : Int))) x5 τ := by
  rw [f_X7_buys_71]
  simp (disch := omega) only [↓reduceIte, gd_t, bd_s, nm_W, nm_I, I_add, I_sub, I_mul, I_neg, I_le_t, I_le_f, I_lt_t, I_lt_f, I_eq_t, I_eq_f, I_inb', I_ix', Int.toNat_natCast, decide_true, decide_false, Bool.not_false, Bool.not_true, if_true, if_false, wi_eq, wi_eq', wi_ne, wi_row, wi_2, N0, N1, N2, N3, N4, N5, N6, N7, N8, N9, N10, N11, N12, N13, N14, N15, N16, N17, N18, N19, N20, N21, N22, N23, N24, N25, N26, N27, N28, N29, N30, N31, N32, N33, N34, N35, N36, N37, N38, N39, N40, N41, N42, N43, N45, N48, N57, N59, N88, N89, N97, N99, N120, N121, N122, N179, N200, N255, N300, N400, N880, N900, N999, N1019, N50000000, N100000000, N1000000000, N2147483647, N2147483648, levels7 (σ := τ) v5, e2]
set_option maxHeartbeats 2000000 in
theorem buy_loop {m r V v : Nat} {x5 : Int32} (hm : 10 < m) (hmr : m + 12 < r) (hv : v < V) :
    ∀ (rr k n1 n2 : Nat) (left z : Int) (d : MD) (σ τ : Wd), z = (k : Int) → k + rr = d.lv v → rr < n1 → rr < n2 → 0 ≤ left → left ≤ 120 → left ≤ ts d.sz rr (6 * v + k) → MDok d V → CV m σ V d → RV τ V d → LR (r + 9) σ τ V d →
    ∃ (σ' τ' : Wd) (d' : MD) (pay : Int32), f_X4_buy_57 r m n1 (I (v : Int)) (I left) (I z) σ = some (0, σ') ∧ f_X7_buys_71 n2 (I (v : Int)) (I (48 + 8 * (v : Int))) x5 (I left) (I z) τ = f_X7_buys_208 (I (48 + 8 * (v : Int))) x5 τ'
      ∧ MDok d' V ∧ CV m σ' V d' ∧ RV τ' V d' ∧ LR (r + 9) σ' τ' V d' ∧ (d'.1 = d.1 ∧ d'.lv = d.lv ∧ d'.pr = d.pr)
      ∧ (σ'.1 (r + 3) v = σ.1 (r + 3) v + I left ∧ σ'.1 r 3 = σ.1 r 3 + I left ∧ σ'.1 (r + 4) v = σ.1 (r + 4) v + pay ∧ σ'.1 r 4 = σ.1 r 4 + pay ∧ τ'.1 112 (55 + 8 * v) = τ.1 112 (55 + 8 * v) + pay ∧ τ'.1 112 40 = τ.1 112 40 + pay)
      ∧ ((∀ i, i ≠ 3 → i ≠ 4 → σ'.1 r i = σ.1 r i) ∧ (∀ w, w ≠ v → σ'.1 (r + 3) w = σ.1 (r + 3) w ∧ σ'.1 (r + 4) w = σ.1 (r + 4) w) ∧ (∀ k, k ≠ m + 9 → k ≠ r → k ≠ r + 3 → k ≠ r + 4 → k < r + 9 ∨ r + 12 < k → σ'.1 k = σ.1 k) ∧ σ'.2 = σ.2)
      ∧ ((∀ k, k ≠ 112 → τ'.1 k = τ.1 k) ∧ (∀ i, 30 ≤ i → i < 88 → i ≠ 40 → i ≠ 55 + 8 * v → τ'.1 112 i = τ.1 112 i) ∧ τ'.2 = τ.2)
  | 0, k, n1 + 1, n2 + 1, left, z, d, σ, τ, hz, hk, _, _, l0, l1, hts, hd, hc, hr, hL => by
    have v5 : v < 5 := Nat.lt_of_lt_of_le hv hd.1
    have l6 := lv6 hd v hv
    have hts : left ≤ 0 := hts
    have e0 : left = 0 := by omega
    subst e0
    have e1 := (hc.2 v hv).2.2.2.2.1
    have e2 := (hr.2 v hv).2.2.2.2.1
    refine ⟨σ, τ, d, I 0, ?_, ?_, hd, hc, hr, hL, ⟨rfl, rfl, rfl⟩, ⟨(addI0 _).symm, (addI0 _).symm, (addI0 _).symm, (addI0 _).symm, (addI0 _).symm, (addI0 _).symm⟩, ⟨fun _ _ _ => rfl, fun _ _ => ⟨rfl, rfl⟩, fun _ _ _ _ _ _ => rfl, rfl⟩, ⟨fun _ _ => rfl, fun _ _ _ _ _ => rfl, rfl⟩⟩
    · rw [f_X4_buy_57]
      simp (disch := omega) only [↓reduceIte, gd_t, bd_s, nm_W, nm_I, I_add, I_sub, I_mul, I_neg, I_le_t, I_le_f, I_lt_t, I_lt_f, I_eq_t, I_eq_f, I_inb', I_ix', Int.toNat_natCast, decide_true, decide_false, Bool.not_false, Bool.not_true, if_true, if_false, wi_eq, wi_eq', wi_ne, wi_row, wi_2, N0, N1, N2, N3, N4, N5, N6, N7, N8, N9, N10, N11, N12, N13, N14, N15, N16, N17, N18, N19, N20, N21, N22, N23, N24, N25, N26, N27, N28, N29, N30, N31, N32, N33, N34, N35, N36, N37, N38, N39, N40, N41, N42, N43, N45, N48, N57, N59, N88, N89, N97, N99, N120, N121, N122, N179, N200, N255, N300, N400, N880, N900, N999, N1019, N50000000, N100000000, N1000000000, N2147483647, N2147483648, e1, f_X4_buy_214]
    · rw [f_X7_buys_71]
      simp (disch := omega) only [↓reduceIte, gd_t, bd_s, nm_W, nm_I, I_add, I_sub, I_mul, I_neg, I_le_t, I_le_f, I_lt_t, I_lt_f, I_eq_t, I_eq_f, I_inb', I_ix', Int.toNat_natCast, decide_true, decide_false, Bool.not_false, Bool.not_true, if_true, if_false, wi_eq, wi_eq', wi_ne, wi_row, wi_2, N0, N1, N2, N3, N4, N5, N6, N7, N8, N9, N10, N11, N12, N13, N14, N15, N16, N17, N18, N19, N20, N21, N22, N23, N24, N25, N26, N27, N28, N29, N30, N31, N32, N33, N34, N35, N36, N37, N38, N39, N40, N41, N42, N43, N45, N48, N57, N59, N88, N89, N97, N99, N120, N121, N122, N179, N200, N255, N300, N400, N880, N900, N999, N1019, N50000000, N100000000, N1000000000, N2147483647, N2147483648, levels7 (σ := τ) v5, e2]
  | rr + 1, k, n1 + 1, n2 + 1, left, z, d, σ, τ, hz, hk, hn1, hn2, l0, l1, hts, hd, hc, hr, hL => by
    subst hz
    have v5 : v < 5 := Nat.lt_of_lt_of_le hv hd.1
    have l6 := lv6 hd v hv
    have kl : k < d.lv v := by omega
    have e1 := (hc.2 v hv).2.2.2.2.1
    have e2 := (hr.2 v hv).2.2.2.2.1
    obtain ⟨ep, es⟩ := (hc.2 v hv).2.2.2.2.2 k kl
    obtain ⟨rp, rs⟩ := (hr.2 v hv).2.2.2.2.2 k kl
    obtain ⟨s1, s2, p1, p2⟩ := lvOk_at hd hv kl
    have p7 := price7 (σ := τ) v5 (show k < 6 by omega)
    have s7 := size7 (σ := τ) v5 (show k < 6 by omega)
    rw [rp] at p7
    rw [rs] at s7
    have ts1 : ((v : Int) * 6 + (k : Int)).toNat = 6 * v + k := by omega
    have ts2 : ((0 : Int) + 6 * (v : Int) + (k : Int)).toNat = 6 * v + k := by omega
    have t7 : ((48 : Int) + 8 * (v : Int) + 7).toNat = 55 + 8 * v := by omega
    have t40 : Int.toNat 40 = 40 := rfl
    by_cases c0 : left ≤ 0
    · have e0 : left = 0 := by omega
      have A1 := bl_c (r := r) (n1 := n1) v5 l6 kl l0 c0 e1
      have A2 := bl_r (n2 := n2) (x5 := x5) v5 l6 kl l0 c0 e2
      subst e0
      refine ⟨σ, τ, d, I 0, A1, A2, hd, hc, hr, hL, ⟨rfl, rfl, rfl⟩, ⟨(addI0 _).symm, (addI0 _).symm, (addI0 _).symm, (addI0 _).symm, (addI0 _).symm, (addI0 _).symm⟩, ⟨fun _ _ _ => rfl, fun _ _ => ⟨rfl, rfl⟩, fun _ _ _ _ _ _ => rfl, rfl⟩, ⟨fun _ _ => rfl, fun _ _ _ _ _ => rfl, rfl⟩⟩
    · have key : ∀ n : Int, 0 < n → n ≤ left → n ≤ d.sz (6 * v + k) → (n = left ∨ n = d.sz (6 * v + k)) →
          ∃ (σ' τ' : Wd) (d' : MD) (pay : Int32), f_X4_buy_105 r m (f_X4_buy_57 r m n1) (I (v : Int)) (I left) (I (k : Int)) (I ((v : Int) * 6 + (k : Int))) (I n) σ = some (0, σ') ∧ f_X7_buys_110 (f_X7_buys_71 n2) (I (v : Int)) (I (48 + 8 * (v : Int))) x5 (I left) (I (k : Int)) (I n) τ = f_X7_buys_208 (I (48 + 8 * (v : Int))) x5 τ'
            ∧ MDok d' V ∧ CV m σ' V d' ∧ RV τ' V d' ∧ LR (r + 9) σ' τ' V d' ∧ (d'.1 = d.1 ∧ d'.lv = d.lv ∧ d'.pr = d.pr)
            ∧ (σ'.1 (r + 3) v = σ.1 (r + 3) v + I left ∧ σ'.1 r 3 = σ.1 r 3 + I left ∧ σ'.1 (r + 4) v = σ.1 (r + 4) v + pay ∧ σ'.1 r 4 = σ.1 r 4 + pay ∧ τ'.1 112 (55 + 8 * v) = τ.1 112 (55 + 8 * v) + pay ∧ τ'.1 112 40 = τ.1 112 40 + pay)
            ∧ ((∀ i, i ≠ 3 → i ≠ 4 → σ'.1 r i = σ.1 r i) ∧ (∀ w, w ≠ v → σ'.1 (r + 3) w = σ.1 (r + 3) w ∧ σ'.1 (r + 4) w = σ.1 (r + 4) w) ∧ (∀ k, k ≠ m + 9 → k ≠ r → k ≠ r + 3 → k ≠ r + 4 → k < r + 9 ∨ r + 12 < k → σ'.1 k = σ.1 k) ∧ σ'.2 = σ.2)
            ∧ ((∀ k, k ≠ 112 → τ'.1 k = τ.1 k) ∧ (∀ i, 30 ≤ i → i < 88 → i ≠ 40 → i ≠ 55 + 8 * v → τ'.1 112 i = τ.1 112 i) ∧ τ'.2 = τ.2) := by
        intro n n0 nl ns nor
        obtain ⟨d1, hd1⟩ : ∃ d1, d1 = dz d (6 * v + k) (d.sz (6 * v + k) - n) := ⟨_, rfl⟩
        have d1l : d1.lv = d.lv := by rw [hd1]; rfl
        have d1p : d1.pr = d.pr := by rw [hd1]; rfl
        have d11 : d1.1 = d.1 := by rw [hd1]; rfl
        have ok1 : MDok d1 V := by rw [hd1]; exact MDok_dz hd (by omega) (by omega)
        obtain ⟨σ1, hσ1⟩ : ∃ s, s = wi (wi (wi (wi (wi σ (m + 9) (6 * v + k) (I (d.sz (6 * v + k) - n))) (r + 3) v (σ.1 (r + 3) v + I n)) r 3 (σ.1 r 3 + I n)) (r + 4) v (σ.1 (r + 4) v + I (n * d.pr (6 * v + k)))) r 4 (σ.1 r 4 + I (n * d.pr (6 * v + k))) := ⟨_, rfl⟩
        obtain ⟨τ1, hτ1⟩ : ∃ s, s = wi (wi (wi τ 112 (6 * v + k) (I (d.sz (6 * v + k) - n))) 112 (55 + 8 * v) (τ.1 112 (55 + 8 * v) + I (n * d.pr (6 * v + k)))) 112 40 (τ.1 112 40 + I (n * d.pr (6 * v + k))) := ⟨_, rfl⟩
        have fσ1 : ∀ k, k ≠ m + 9 → k ≠ r → k ≠ r + 3 → k ≠ r + 4 → σ1.1 k = σ.1 k := fun k h1 h2 h3 h4 => by rw [hσ1]; simp (disch := omega) only [wi_eq, wi_eq', wi_ne, wi_row, wi_2]
        have cv1 : CV m σ1 V d1 := by
          rw [hd1]
          exact CV_rows (CV_dz (i := 6 * v + k) (x := d.sz (6 * v + k) - n) hc) (fun a h1 h2 => by rw [hσ1]; simp (disch := omega) only [wi_eq, wi_eq', wi_ne, wi_row, wi_2])
        have rv1 : RV τ1 V d1 := by
          have q := RV_dz (i := 6 * v + k) (x := d.sz (6 * v + k) - n) hr (by omega)
          rw [← hd1] at q
          rw [hτ1]
          exact RV_wi (RV_wi q ok1.1 (lv6 ok1) (by omega)) ok1.1 (lv6 ok1) (by omega)
        have lr1 : LR (r + 9) σ1 τ1 V d1 := LR_congr hL d1l d1p (fun k h1 h2 => fσ1 k (by omega) (by omega) (by omega) (by omega)) (fun i hi => by rw [hτ1]; simp (disch := omega) only [wi_eq, wi_eq', wi_ne, wi_row, wi_2])
        obtain ⟨σ2, τ2, b1, b2, b3, b4, b5, b6, b7, b8⟩ := note_ok (x3 := I n) ok1 hv (show k < d1.lv v by rw [d1l]; exact kl) lr1
        rw [d1p] at b1 b2
        have cv2 : CV m σ2 V d1 := CV_rows cv1 (fun k h1 h2 => b4 k (by omega))
        have rv2 : RV τ2 V d1 := RV_cells rv1 ok1.1 (lv6 ok1) (by rw [b6 102 (by decide)]) (b6 103 (by decide)) (b6 104 (by decide)) (fun i hi => b7 i (by omega))
        have tnn := ts_nn rr (6 * v + k + 1) (fun j q1 q2 => (hd.2 v hv).2.2.2.2.2 j (by omega) (by omega))
        have hts' : left ≤ d.sz (6 * v + k) + ts d.sz rr (6 * v + k + 1) := hts
        have tcg : ts d1.sz rr (6 * v + k + 1) = ts d.sz rr (6 * v + k + 1) := ts_congr rr _ (fun j hj => by
          rw [hd1]
          show (if j = 6 * v + k then _ else d.sz j) = d.sz j
          rw [if_neg (by omega)])
        obtain ⟨σ', τ', d', pay, q1, q2, q3, q4, q5, q6, ⟨q7, q8, q9⟩, ⟨g1, g2, g3, g4, g5, g6⟩, ⟨f1, f2, f3, f4⟩, ⟨f5, f6, f7⟩⟩ := buy_loop (x5 := x5) hm hmr hv rr (k + 1) n1 n2 (left - n) ((k : Int) + 1) d1 σ2 τ2 (by omega) (by rw [d1l]; omega) (by omega) (by omega) (by omega) (by omega)
          (by rw [show 6 * v + (k + 1) = 6 * v + k + 1 from rfl, tcg]; rcases nor with e | e <;> omega) ok1 cv2 rv2 b3
        have f8 : σ1.1 (m + 8) (6 * v + k) = I (d.pr (6 * v + k)) := by rw [hσ1]; simp (disch := omega) only [wi_eq, wi_eq', wi_ne, wi_row, wi_2]; exact ep
        refine ⟨σ', τ', d', I (n * d.pr (6 * v + k)) + pay, ?_, ?_, q3, q4, q5, q6, ⟨by rw [q7, d11], by rw [q8, d1l], by rw [q9, d1p]⟩, ⟨?_, ?_, ?_, ?_, ?_, ?_⟩, ⟨fun i h1 h2 => ?_, fun w hw => ⟨?_, ?_⟩, fun k' h1 h2 h3 h4 h5 => ?_, ?_⟩, ⟨fun k' hk' => ?_, fun i h1 h2 h3 h4 => ?_, ?_⟩⟩
        · rw [← q1]
          unfold f_X4_buy_105
          simp (disch := omega) only [↓reduceIte, gd_t, bd_s, nm_W, nm_I, I_add, I_sub, I_mul, I_neg, I_le_t, I_le_f, I_lt_t, I_lt_f, I_eq_t, I_eq_f, I_inb', I_ix', Int.toNat_natCast, decide_true, decide_false, Bool.not_false, Bool.not_true, if_true, if_false, wi_eq, wi_eq', wi_ne, wi_row, wi_2, N0, N1, N2, N3, N4, N5, N6, N7, N8, N9, N10, N11, N12, N13, N14, N15, N16, N17, N18, N19, N20, N21, N22, N23, N24, N25, N26, N27, N28, N29, N30, N31, N32, N33, N34, N35, N36, N37, N38, N39, N40, N41, N42, N43, N45, N48, N57, N59, N88, N89, N97, N99, N120, N121, N122, N179, N200, N255, N300, N400, N880, N900, N999, N1019, N50000000, N100000000, N1000000000, N2147483647, N2147483648, ts1, es, ep, ← hσ1, f8, b1, f_X4_buy_208]
        · rw [← q2]
          unfold f_X7_buys_110
          simp (disch := omega) only [↓reduceIte, gd_t, bd_s, nm_W, nm_I, I_add, I_sub, I_mul, I_neg, I_le_t, I_le_f, I_lt_t, I_lt_f, I_eq_t, I_eq_f, I_inb', I_ix', Int.toNat_natCast, decide_true, decide_false, Bool.not_false, Bool.not_true, if_true, if_false, wi_eq, wi_eq', wi_ne, wi_row, wi_2, N0, N1, N2, N3, N4, N5, N6, N7, N8, N9, N10, N11, N12, N13, N14, N15, N16, N17, N18, N19, N20, N21, N22, N23, N24, N25, N26, N27, N28, N29, N30, N31, N32, N33, N34, N35, N36, N37, N38, N39, N40, N41, N42, N43, N45, N48, N57, N59, N88, N89, N97, N99, N120, N121, N122, N179, N200, N255, N300, N400, N880, N900, N999, N1019, N50000000, N100000000, N1000000000, N2147483647, N2147483648, ts2, t7, t40, rs, rp, price7 (v := v) (k := k) v5 (by omega), ← hτ1, b2, f_X7_buys_202]
        · rw [g1, b4 (r + 3) (by omega), hσ1]
          simp (disch := omega) only [wi_eq, wi_eq', wi_ne, wi_row, wi_2]
          rw [addI2, show n + (left - n) = left from by omega]
        · rw [g2, b4 r (by omega), hσ1]
          simp (disch := omega) only [wi_eq, wi_eq', wi_ne, wi_row, wi_2]
          rw [addI2, show n + (left - n) = left from by omega]
        · rw [g3, b4 (r + 4) (by omega), hσ1]
          simp (disch := omega) only [wi_eq, wi_eq', wi_ne, wi_row, wi_2]
          rw [Int32.add_assoc]
        · rw [g4, b4 r (by omega), hσ1]
          simp (disch := omega) only [wi_eq, wi_eq', wi_ne, wi_row, wi_2]
          rw [Int32.add_assoc]
        · rw [g5, b7 (55 + 8 * v) (by omega), hτ1]
          simp (disch := omega) only [wi_eq, wi_eq', wi_ne, wi_row, wi_2]
          rw [Int32.add_assoc]
        · rw [g6, b7 40 (by omega), hτ1]
          simp (disch := omega) only [wi_eq, wi_eq', wi_ne, wi_row, wi_2]
          rw [Int32.add_assoc]
        · rw [f1 i h1 h2, b4 r (by omega), hσ1]
          simp (disch := omega) only [wi_eq, wi_eq', wi_ne, wi_row, wi_2]
        · rw [(f2 w hw).1, b4 (r + 3) (by omega), hσ1]
          simp (disch := omega) only [wi_eq, wi_eq', wi_ne, wi_row, wi_2]
        · rw [(f2 w hw).2, b4 (r + 4) (by omega), hσ1]
          simp (disch := omega) only [wi_eq, wi_eq', wi_ne, wi_row, wi_2]
        · rw [f3 k' h1 h2 h3 h4 h5, b4 k' (by omega), fσ1 k' h1 h2 h3 h4]
        · rw [f4, b5, hσ1]
          simp (disch := omega) only [wi_eq, wi_eq', wi_ne, wi_row, wi_2]
        · rw [f5 k' hk', b6 k' hk', hτ1]
          simp (disch := omega) only [wi_eq, wi_eq', wi_ne, wi_row, wi_2]
        · rw [f6 i h1 h2 h3 h4, b7 i (by omega), hτ1]
          simp (disch := omega) only [wi_eq, wi_eq', wi_ne, wi_row, wi_2]
        · rw [f7, b8, hτ1]
          simp (disch := omega) only [wi_eq, wi_eq', wi_ne, wi_row, wi_2]
      by_cases c1 : d.sz (6 * v + k) ≤ 0
      · have ih := buy_loop (x5 := x5) hm hmr hv rr (k + 1) n1 n2 left ((k : Int) + 1) d σ τ (by omega) (by omega) (by omega) (by omega) l0 l1 (by have : left ≤ d.sz (6 * v + k) + ts d.sz rr (6 * v + k + 1) := hts; rw [show 6 * v + (k + 1) = 6 * v + k + 1 from rfl]; omega) hd hc hr hL
        obtain ⟨σ', τ', d', pay, q1, q2, q3⟩ := ih
        refine ⟨σ', τ', d', pay, ?_, ?_, q3⟩
        · rw [← q1, f_X4_buy_57]
          simp (disch := omega) only [↓reduceIte, gd_t, bd_s, nm_W, nm_I, I_add, I_sub, I_mul, I_neg, I_le_t, I_le_f, I_lt_t, I_lt_f, I_eq_t, I_eq_f, I_inb', I_ix', Int.toNat_natCast, decide_true, decide_false, Bool.not_false, Bool.not_true, if_true, if_false, wi_eq, wi_eq', wi_ne, wi_row, wi_2, N0, N1, N2, N3, N4, N5, N6, N7, N8, N9, N10, N11, N12, N13, N14, N15, N16, N17, N18, N19, N20, N21, N22, N23, N24, N25, N26, N27, N28, N29, N30, N31, N32, N33, N34, N35, N36, N37, N38, N39, N40, N41, N42, N43, N45, N48, N57, N59, N88, N89, N97, N99, N120, N121, N122, N179, N200, N255, N300, N400, N880, N900, N999, N1019, N50000000, N100000000, N1000000000, N2147483647, N2147483648, e1, f_X6_slot, ts1, es]
          simp (disch := omega) only [↓reduceIte, gd_t, bd_s, nm_W, nm_I, I_add, I_sub, I_mul, I_neg, I_le_t, I_le_f, I_lt_t, I_lt_f, I_eq_t, I_eq_f, I_inb', I_ix', Int.toNat_natCast, decide_true, decide_false, Bool.not_false, Bool.not_true, if_true, if_false, wi_eq, wi_eq', wi_ne, wi_row, wi_2, N0, N1, N2, N3, N4, N5, N6, N7, N8, N9, N10, N11, N12, N13, N14, N15, N16, N17, N18, N19, N20, N21, N22, N23, N24, N25, N26, N27, N28, N29, N30, N31, N32, N33, N34, N35, N36, N37, N38, N39, N40, N41, N42, N43, N45, N48, N57, N59, N88, N89, N97, N99, N120, N121, N122, N179, N200, N255, N300, N400, N880, N900, N999, N1019, N50000000, N100000000, N1000000000, N2147483647, N2147483648, f_X4_buy_105, f_X4_buy_208]
        · have s0 : d.sz (6 * v + k) = 0 := by omega
          rw [← q2, f_X7_buys_71]
          simp (disch := omega) only [↓reduceIte, gd_t, bd_s, nm_W, nm_I, I_add, I_sub, I_mul, I_neg, I_le_t, I_le_f, I_lt_t, I_lt_f, I_eq_t, I_eq_f, I_inb', I_ix', Int.toNat_natCast, decide_true, decide_false, Bool.not_false, Bool.not_true, if_true, if_false, wi_eq, wi_eq', wi_ne, wi_row, wi_2, N0, N1, N2, N3, N4, N5, N6, N7, N8, N9, N10, N11, N12, N13, N14, N15, N16, N17, N18, N19, N20, N21, N22, N23, N24, N25, N26, N27, N28, N29, N30, N31, N32, N33, N34, N35, N36, N37, N38, N39, N40, N41, N42, N43, N45, N48, N57, N59, N88, N89, N97, N99, N120, N121, N122, N179, N200, N255, N300, N400, N880, N900, N999, N1019, N50000000, N100000000, N1000000000, N2147483647, N2147483648, levels7 (σ := τ) v5, e2, s7]
          simp (disch := omega) only [↓reduceIte, gd_t, bd_s, nm_W, nm_I, I_add, I_sub, I_mul, I_neg, I_le_t, I_le_f, I_lt_t, I_lt_f, I_eq_t, I_eq_f, I_inb', I_ix', Int.toNat_natCast, decide_true, decide_false, Bool.not_false, Bool.not_true, if_true, if_false, wi_eq, wi_eq', wi_ne, wi_row, wi_2, N0, N1, N2, N3, N4, N5, N6, N7, N8, N9, N10, N11, N12, N13, N14, N15, N16, N17, N18, N19, N20, N21, N22, N23, N24, N25, N26, N27, N28, N29, N30, N31, N32, N33, N34, N35, N36, N37, N38, N39, N40, N41, N42, N43, N45, N48, N57, N59, N88, N89, N97, N99, N120, N121, N122, N179, N200, N255, N300, N400, N880, N900, N999, N1019, N50000000, N100000000, N1000000000, N2147483647, N2147483648, s0, f_X7_buys_110, f_X7_buys_202]
      · by_cases c2 : left ≤ d.sz (6 * v + k)
        · obtain ⟨σ', τ', d', pay, q1, q2, q3⟩ := key left (by omega) (by omega) c2 (Or.inl rfl)
          refine ⟨σ', τ', d', pay, ?_, ?_, q3⟩
          · rw [← q1, f_X4_buy_57]
            simp (disch := omega) only [↓reduceIte, gd_t, bd_s, nm_W, nm_I, I_add, I_sub, I_mul, I_neg, I_le_t, I_le_f, I_lt_t, I_lt_f, I_eq_t, I_eq_f, I_inb', I_ix', Int.toNat_natCast, decide_true, decide_false, Bool.not_false, Bool.not_true, if_true, if_false, wi_eq, wi_eq', wi_ne, wi_row, wi_2, N0, N1, N2, N3, N4, N5, N6, N7, N8, N9, N10, N11, N12, N13, N14, N15, N16, N17, N18, N19, N20, N21, N22, N23, N24, N25, N26, N27, N28, N29, N30, N31, N32, N33, N34, N35, N36, N37, N38, N39, N40, N41, N42, N43, N45, N48, N57, N59, N88, N89, N97, N99, N120, N121, N122, N179, N200, N255, N300, N400, N880, N900, N999, N1019, N50000000, N100000000, N1000000000, N2147483647, N2147483648, e1, f_X6_slot, ts1, es]
          · rw [← q2, f_X7_buys_71]
            by_cases c3 : d.sz (6 * v + k) = left
            · rw [c3] at s7
              simp (disch := omega) only [↓reduceIte, gd_t, bd_s, nm_W, nm_I, I_add, I_sub, I_mul, I_neg, I_le_t, I_le_f, I_lt_t, I_lt_f, I_eq_t, I_eq_f, I_inb', I_ix', Int.toNat_natCast, decide_true, decide_false, Bool.not_false, Bool.not_true, if_true, if_false, wi_eq, wi_eq', wi_ne, wi_row, wi_2, N0, N1, N2, N3, N4, N5, N6, N7, N8, N9, N10, N11, N12, N13, N14, N15, N16, N17, N18, N19, N20, N21, N22, N23, N24, N25, N26, N27, N28, N29, N30, N31, N32, N33, N34, N35, N36, N37, N38, N39, N40, N41, N42, N43, N45, N48, N57, N59, N88, N89, N97, N99, N120, N121, N122, N179, N200, N255, N300, N400, N880, N900, N999, N1019, N50000000, N100000000, N1000000000, N2147483647, N2147483648, levels7 (σ := τ) v5, e2, s7]
            · simp (disch := omega) only [↓reduceIte, gd_t, bd_s, nm_W, nm_I, I_add, I_sub, I_mul, I_neg, I_le_t, I_le_f, I_lt_t, I_lt_f, I_eq_t, I_eq_f, I_inb', I_ix', Int.toNat_natCast, decide_true, decide_false, Bool.not_false, Bool.not_true, if_true, if_false, wi_eq, wi_eq', wi_ne, wi_row, wi_2, N0, N1, N2, N3, N4, N5, N6, N7, N8, N9, N10, N11, N12, N13, N14, N15, N16, N17, N18, N19, N20, N21, N22, N23, N24, N25, N26, N27, N28, N29, N30, N31, N32, N33, N34, N35, N36, N37, N38, N39, N40, N41, N42, N43, N45, N48, N57, N59, N88, N89, N97, N99, N120, N121, N122, N179, N200, N255, N300, N400, N880, N900, N999, N1019, N50000000, N100000000, N1000000000, N2147483647, N2147483648, levels7 (σ := τ) v5, e2, s7]
        · obtain ⟨σ', τ', d', pay, q1, q2, q3⟩ := key (d.sz (6 * v + k)) (by omega) (by omega) (Int.le_refl _) (Or.inr rfl)
          refine ⟨σ', τ', d', pay, ?_, ?_, q3⟩
          · rw [← q1, f_X4_buy_57]
            simp (disch := omega) only [↓reduceIte, gd_t, bd_s, nm_W, nm_I, I_add, I_sub, I_mul, I_neg, I_le_t, I_le_f, I_lt_t, I_lt_f, I_eq_t, I_eq_f, I_inb', I_ix', Int.toNat_natCast, decide_true, decide_false, Bool.not_false, Bool.not_true, if_true, if_false, wi_eq, wi_eq', wi_ne, wi_row, wi_2, N0, N1, N2, N3, N4, N5, N6, N7, N8, N9, N10, N11, N12, N13, N14, N15, N16, N17, N18, N19, N20, N21, N22, N23, N24, N25, N26, N27, N28, N29, N30, N31, N32, N33, N34, N35, N36, N37, N38, N39, N40, N41, N42, N43, N45, N48, N57, N59, N88, N89, N97, N99, N120, N121, N122, N179, N200, N255, N300, N400, N880, N900, N999, N1019, N50000000, N100000000, N1000000000, N2147483647, N2147483648, e1, f_X6_slot, ts1, es]
          · rw [← q2, f_X7_buys_71]
            simp (disch := omega) only [↓reduceIte, gd_t, bd_s, nm_W, nm_I, I_add, I_sub, I_mul, I_neg, I_le_t, I_le_f, I_lt_t, I_lt_f, I_eq_t, I_eq_f, I_inb', I_ix', Int.toNat_natCast, decide_true, decide_false, Bool.not_false, Bool.not_true, if_true, if_false, wi_eq, wi_eq', wi_ne, wi_row, wi_2, N0, N1, N2, N3, N4, N5, N6, N7, N8, N9, N10, N11, N12, N13, N14, N15, N16, N17, N18, N19, N20, N21, N22, N23, N24, N25, N26, N27, N28, N29, N30, N31, N32, N33, N34, N35, N36, N37, N38, N39, N40, N41, N42, N43, N45, N48, N57, N59, N88, N89, N97, N99, N120, N121, N122, N179, N200, N255, N300, N400, N880, N900, N999, N1019, N50000000, N100000000, N1000000000, N2147483647, N2147483648, levels7 (σ := τ) v5, e2, s7]
end
section
/-! PURE: buying, whole -/
set_option maxHeartbeats 1000000 in
theorem buy_ok {m r V v : Nat} {d : MD} {σ τ : Wd} {n g c : Int} (hm : 10 < m) (hmr : m + 12 < r) (hv : v < V) (hd : MDok d V) (hc : CV m σ V d) (hr : RV τ V d) (hL : LR (r + 9) σ τ V d)
    (sn : σ.1 (r + 2) v = I n) (sg : σ.1 (r + 3) v = I g) (sc : σ.1 (r + 6) v = I c) (tn : τ.1 112 (49 + 8 * v) = I n) (tg : τ.1 112 (50 + 8 * v) = I g) (tc : τ.1 112 (52 + 8 * v) = I c) (c0 : 0 ≤ c) (c1 : c ≤ 999) (g0 : 0 ≤ g) (gn : g ≤ n) (n1 : n ≤ 120) :
    ∃ (σ' τ' : Wd) (d' : MD) (pay : Int32) (x : Int), f_X4_buy r m (I (v : Int)) σ = some (0, σ') ∧ f_X7_buys (I (v : Int)) τ = some (I x, τ') ∧ 0 ≤ x ∧ x ≤ n - g
      ∧ MDok d' V ∧ CV m σ' V d' ∧ RV τ' V d' ∧ LR (r + 9) σ' τ' V d' ∧ (d'.1 = d.1 ∧ d'.lv = d.lv ∧ d'.pr = d.pr)
      ∧ (σ'.1 (r + 3) v = I (g + x) ∧ τ'.1 112 (50 + 8 * v) = I (g + x) ∧ σ'.1 r 3 = σ.1 r 3 + I x ∧ τ'.1 112 39 = τ.1 112 39 + I x ∧ σ'.1 (r + 4) v = σ.1 (r + 4) v + pay ∧ σ'.1 r 4 = σ.1 r 4 + pay ∧ τ'.1 112 (55 + 8 * v) = τ.1 112 (55 + 8 * v) + pay ∧ τ'.1 112 40 = τ.1 112 40 + pay)
      ∧ ((∀ i, i ≠ 3 → i ≠ 4 → σ'.1 r i = σ.1 r i) ∧ (∀ w, w ≠ v → σ'.1 (r + 3) w = σ.1 (r + 3) w ∧ σ'.1 (r + 4) w = σ.1 (r + 4) w) ∧ (∀ k, k ≠ m + 9 → k ≠ r → k ≠ r + 3 → k ≠ r + 4 → k < r + 9 ∨ r + 12 < k → σ'.1 k = σ.1 k) ∧ σ'.2 = σ.2)
      ∧ ((∀ k, k ≠ 112 → τ'.1 k = τ.1 k) ∧ (∀ i, 30 ≤ i → i < 88 → i ≠ 39 → i ≠ 40 → i ≠ 50 + 8 * v → i ≠ 55 + 8 * v → τ'.1 112 i = τ.1 112 i) ∧ τ'.2 = τ.2) := by
  have v5 : v < 5 := Nat.lt_of_lt_of_le hv hd.1
  obtain ⟨-, lb, -, -, l6, lok⟩ := hd.2 v hv
  have db := dep_bnd (p := c) hd hv
  have dt : dep d c v ≤ ts d.sz (d.lv v) (6 * v) := uz_ts _ _ lok
  obtain ⟨mn, hmn⟩ : ∃ mn, mn = (if n - g ≤ dep d c v then n - g else dep d c v) := ⟨_, rfl⟩
  have mb : 0 ≤ mn ∧ mn ≤ n - g ∧ mn ≤ dep d c v := by
    split at hmn <;> omega
  have me := Int.emod_nonneg mn (show d.lo v ≠ 0 by omega)
  have ml := Int.emod_lt_of_pos mn (show 0 < d.lo v by omega)
  have em : I mn % I (d.lo v) = I (mn % d.lo v) := I_mod (by unfold R; omega) (by unfold R; omega) mb.1 (by omega)
  have ed : I mn / I (d.lo v) = I (mn / d.lo v) := I_div (by unfold R; omega) (by unfold R; omega) mb.1 (by omega)
  have e2 := Int.mul_ediv_add_emod mn (d.lo v)
  have ex : mn / d.lo v * d.lo v = mn - mn % d.lo v := by rw [Int.mul_comm]; omega
  have mlt : mn % d.lo v ≤ mn := by
    have := Int.mul_nonneg (show 0 ≤ d.lo v by omega) (Int.ediv_nonneg mb.1 (show 0 ≤ d.lo v by omega))
    omega
  obtain ⟨x, hx⟩ : ∃ x, x = mn - mn % d.lo v := ⟨_, rfl⟩
  have t1 : ((48 : Int) + 8 * (v : Int) + 1).toNat = 49 + 8 * v := by omega
  have t2 : ((48 : Int) + 8 * (v : Int) + 2).toNat = 50 + 8 * v := by omega
  have t4 : ((48 : Int) + 8 * (v : Int) + 4).toNat = 52 + 8 * v := by omega
  have t39 : Int.toNat 39 = 39 := rfl
  have eu := cUnits hc hd hv (show R c by unfold R; omega)
  have ru := rUnits hr hd hv (show R c by unfold R; omega)
  obtain ⟨σ', τ', d', pay, q1, q2, q3, q4, q5, q6, q7, ⟨g1, g2, g3, g4, g5, g6⟩, fc, ⟨f5, f6, f7⟩⟩ := buy_loop (x5 := I x) hm hmr hv (d.lv v) 0 FU FU x 0 d σ τ rfl (by omega) (by show _ < 6000; omega) (by show _ < 6000; omega) (by omega) (by omega) (by rw [Nat.add_zero]; omega) hd hc hr hL
  have a50 : τ'.1 112 (50 + 8 * v) = I g := by rw [f6 _ (by omega) (by omega) (by omega) (by omega)]; exact tg
  have a39 : τ'.1 112 39 = τ.1 112 39 := f6 _ (by omega) (by omega) (by omega) (by omega)
  refine ⟨σ', wi (wi τ' 112 (50 + 8 * v) (I (g + x))) 112 39 (τ.1 112 39 + I x), d', pay, x, ?_, ?_, by omega, by omega, q3, q4, RV_wi (RV_wi q5 q3.1 (lv6 q3) (by omega)) q3.1 (lv6 q3) (by omega), LR_congr q6 rfl rfl (fun _ _ _ => rfl) (fun i hi => by simp (disch := omega) only [wi_eq, wi_eq', wi_ne, wi_row, wi_2]), q7,
    ⟨by rw [g1, sg, I_add], by simp (disch := omega) only [wi_eq, wi_eq', wi_ne, wi_row, wi_2], g2, by simp (disch := omega) only [wi_eq, wi_eq', wi_ne, wi_row, wi_2], g3, g4, ?_, ?_⟩, fc, ⟨fun k hk => ?_, fun i h1 h2 h3 h4 h5 h6 => ?_, ?_⟩⟩
  · rw [← q1]
    unfold f_X4_buy
    by_cases cc : n - g ≤ dep d c v
    · rw [if_pos cc] at hmn
      subst hmn
      simp (disch := omega) only [↓reduceIte, gd_t, bd_s, nm_W, nm_I, I_add, I_sub, I_mul, I_neg, I_le_t, I_le_f, I_lt_t, I_lt_f, I_eq_t, I_eq_f, I_inb', I_ix', Int.toNat_natCast, decide_true, decide_false, Bool.not_false, Bool.not_true, if_true, if_false, wi_eq, wi_eq', wi_ne, wi_row, wi_2, N0, N1, N2, N3, N4, N5, N6, N7, N8, N9, N10, N11, N12, N13, N14, N15, N16, N17, N18, N19, N20, N21, N22, N23, N24, N25, N26, N27, N28, N29, N30, N31, N32, N33, N34, N35, N36, N37, N38, N39, N40, N41, N42, N43, N45, N48, N57, N59, N88, N89, N97, N99, N120, N121, N122, N179, N200, N255, N300, N400, N880, N900, N999, N1019, N50000000, N100000000, N1000000000, N2147483647, N2147483648, sc, eu, sn, sg, f_X4_buy_39, cLot hc hd hv, em]
      rw [← hx]
    · rw [if_neg cc] at hmn
      subst hmn
      simp (disch := omega) only [↓reduceIte, gd_t, bd_s, nm_W, nm_I, I_add, I_sub, I_mul, I_neg, I_le_t, I_le_f, I_lt_t, I_lt_f, I_eq_t, I_eq_f, I_inb', I_ix', Int.toNat_natCast, decide_true, decide_false, Bool.not_false, Bool.not_true, if_true, if_false, wi_eq, wi_eq', wi_ne, wi_row, wi_2, N0, N1, N2, N3, N4, N5, N6, N7, N8, N9, N10, N11, N12, N13, N14, N15, N16, N17, N18, N19, N20, N21, N22, N23, N24, N25, N26, N27, N28, N29, N30, N31, N32, N33, N34, N35, N36, N37, N38, N39, N40, N41, N42, N43, N45, N48, N57, N59, N88, N89, N97, N99, N120, N121, N122, N179, N200, N255, N300, N400, N880, N900, N999, N1019, N50000000, N100000000, N1000000000, N2147483647, N2147483648, sc, eu, sn, sg, f_X4_buy_39, cLot hc hd hv, em]
      rw [← hx]
  · have e3 : f_X7_buys_50 (I (v : Int)) (I (48 + 8 * (v : Int))) (I mn) τ = f_X7_buys_208 (I (48 + 8 * (v : Int))) (I x) τ' := by
      rw [← q2]
      unfold f_X7_buys_50
      simp (disch := omega) only [↓reduceIte, gd_t, bd_s, nm_W, nm_I, I_add, I_sub, I_mul, I_neg, I_le_t, I_le_f, I_lt_t, I_lt_f, I_eq_t, I_eq_f, I_inb', I_ix', Int.toNat_natCast, decide_true, decide_false, Bool.not_false, Bool.not_true, if_true, if_false, wi_eq, wi_eq', wi_ne, wi_row, wi_2, N0, N1, N2, N3, N4, N5, N6, N7, N8, N9, N10, N11, N12, N13, N14, N15, N16, N17, N18, N19, N20, N21, N22, N23, N24, N25, N26, N27, N28, N29, N30, N31, N32, N33, N34, N35, N36, N37, N38, N39, N40, N41, N42, N43, N45, N48, N57, N59, N88, N89, N97, N99, N120, N121, N122, N179, N200, N255, N300, N400, N880, N900, N999, N1019, N50000000, N100000000, N1000000000, N2147483647, N2147483648, rLot hr hd hv, ed, ex, ← hx]
    have e4 : f_X7_buys_208 (I (48 + 8 * (v : Int))) (I x) τ' = some (I x, wi (wi τ' 112 (50 + 8 * v) (I (g + x))) 112 39 (τ.1 112 39 + I x)) := by
      unfold f_X7_buys_208
      simp (disch := omega) only [↓reduceIte, gd_t, bd_s, nm_W, nm_I, I_add, I_sub, I_mul, I_neg, I_le_t, I_le_f, I_lt_t, I_lt_f, I_eq_t, I_eq_f, I_inb', I_ix', Int.toNat_natCast, decide_true, decide_false, Bool.not_false, Bool.not_true, if_true, if_false, wi_eq, wi_eq', wi_ne, wi_row, wi_2, N0, N1, N2, N3, N4, N5, N6, N7, N8, N9, N10, N11, N12, N13, N14, N15, N16, N17, N18, N19, N20, N21, N22, N23, N24, N25, N26, N27, N28, N29, N30, N31, N32, N33, N34, N35, N36, N37, N38, N39, N40, N41, N42, N43, N45, N48, N57, N59, N88, N89, N97, N99, N120, N121, N122, N179, N200, N255, N300, N400, N880, N900, N999, N1019, N50000000, N100000000, N1000000000, N2147483647, N2147483648, t2, t39, a50, a39]
    rw [← e4, ← e3]
    unfold f_X7_buys f_X7_partAt
    by_cases cc : dep d c v ≤ n - g
    · by_cases c3 : n - g ≤ dep d c v
      · have e5 : mn = dep d c v := by rw [if_pos c3] at hmn; omega
        rw [e5]
        simp (disch := omega) only [↓reduceIte, gd_t, bd_s, nm_W, nm_I, I_add, I_sub, I_mul, I_neg, I_le_t, I_le_f, I_lt_t, I_lt_f, I_eq_t, I_eq_f, I_inb', I_ix', Int.toNat_natCast, decide_true, decide_false, Bool.not_false, Bool.not_true, if_true, if_false, wi_eq, wi_eq', wi_ne, wi_row, wi_2, N0, N1, N2, N3, N4, N5, N6, N7, N8, N9, N10, N11, N12, N13, N14, N15, N16, N17, N18, N19, N20, N21, N22, N23, N24, N25, N26, N27, N28, N29, N30, N31, N32, N33, N34, N35, N36, N37, N38, N39, N40, N41, N42, N43, N45, N48, N57, N59, N88, N89, N97, N99, N120, N121, N122, N179, N200, N255, N300, N400, N880, N900, N999, N1019, N50000000, N100000000, N1000000000, N2147483647, N2147483648, t1, t2, t4, tn, tg, tc, ru]
      · rw [if_neg c3] at hmn
        rw [hmn]
        simp (disch := omega) only [↓reduceIte, gd_t, bd_s, nm_W, nm_I, I_add, I_sub, I_mul, I_neg, I_le_t, I_le_f, I_lt_t, I_lt_f, I_eq_t, I_eq_f, I_inb', I_ix', Int.toNat_natCast, decide_true, decide_false, Bool.not_false, Bool.not_true, if_true, if_false, wi_eq, wi_eq', wi_ne, wi_row, wi_2, N0, N1, N2, N3, N4, N5, N6, N7, N8, N9, N10, N11, N12, N13, N14, N15, N16, N17, N18, N19, N20, N21, N22, N23, N24, N25, N26, N27, N28, N29, N30, N31, N32, N33, N34, N35, N36, N37, N38, N39, N40, N41, N42, N43, N45, N48, N57, N59, N88, N89, N97, N99, N120, N121, N122, N179, N200, N255, N300, N400, N880, N900, N999, N1019, N50000000, N100000000, N1000000000, N2147483647, N2147483648, t1, t2, t4, tn, tg, tc, ru]
    · rw [if_pos (show n - g ≤ dep d c v by omega)] at hmn
      rw [hmn]
      simp (disch := omega) only [↓reduceIte, gd_t, bd_s, nm_W, nm_I, I_add, I_sub, I_mul, I_neg, I_le_t, I_le_f, I_lt_t, I_lt_f, I_eq_t, I_eq_f, I_inb', I_ix', Int.toNat_natCast, decide_true, decide_false, Bool.not_false, Bool.not_true, if_true, if_false, wi_eq, wi_eq', wi_ne, wi_row, wi_2, N0, N1, N2, N3, N4, N5, N6, N7, N8, N9, N10, N11, N12, N13, N14, N15, N16, N17, N18, N19, N20, N21, N22, N23, N24, N25, N26, N27, N28, N29, N30, N31, N32, N33, N34, N35, N36, N37, N38, N39, N40, N41, N42, N43, N45, N48, N57, N59, N88, N89, N97, N99, N120, N121, N122, N179, N200, N255, N300, N400, N880, N900, N999, N1019, N50000000, N100000000, N1000000000, N2147483647, N2147483648, t1, t2, t4, tn, tg, tc, ru]
  · simp (disch := omega) only [wi_eq, wi_eq', wi_ne, wi_row, wi_2]
    exact g5
  · simp (disch := omega) only [wi_eq, wi_eq', wi_ne, wi_row, wi_2]
    exact g6
  · rw [wi_row hk, wi_row hk]
    exact f5 k hk
  · simp (disch := omega) only [wi_eq, wi_eq', wi_ne, wi_row, wi_2]
    exact f6 i h1 h2 h4 h6
  · rw [wi_2, wi_2]
    exact f7
end
section
/-! PURE: a part ends -/
theorem nn_msb (x : Int32) : (0 ≤ x) ↔ x.toBitVec.msb = false := by
  rw [Int32.le_iff_toInt_le, show (0 : Int32).toInt = 0 from rfl, BitVec.msb_eq_toInt, decide_eq_false_iff_not]
  show 0 ≤ x.toBitVec.toInt ↔ _
  omega
theorem nn_xor {x y : Int32} (h : 0 ≤ y) : (0 ≤ x ^^^ y) ↔ 0 ≤ x := by
  rw [nn_msb, nn_msb, Int32.toBitVec_xor, BitVec.msb_xor, (nn_msb y).mp h, Bool.xor_false]
def fl (A n : Int) : Int := if A.tmod n = 0 then A.tdiv n else if 0 ≤ A then A.tdiv n else A.tdiv n - 1
theorem I_tdiv {A n : Int} (hA : R A) (h1 : 1 ≤ n) (h2 : n ≤ 120) : I A / I n = I (A.tdiv n) := by
  have hb1 : I n ≠ -1 := by
    intro h
    rw [show (-1 : Int32) = I (-1) from rfl, I_eq (by unfold R; omega) (by unfold R; omega)] at h
    omega
  rw [← I_of (I A / I n), Int32.toInt_div_of_ne_right _ _ hb1, I_toInt hA, I_toInt (by unfold R; omega)]
theorem I_tmod {A n : Int} (hA : R A) (h1 : 1 ≤ n) (h2 : n ≤ 120) : I A % I n = I (A.tmod n) := by
  rw [← I_of (I A % I n), Int32.toInt_mod, I_toInt hA, I_toInt (by unfold R; omega)]
theorem tmod_bnd {A n : Int} (h1 : 1 ≤ n) : -n < A.tmod n ∧ A.tmod n < n := by
  by_cases c : 0 ≤ A
  · rw [Int.tmod_eq_emod_of_nonneg c]
    have := Int.emod_nonneg A (show n ≠ 0 by omega)
    have := Int.emod_lt_of_pos A (show 0 < n by omega)
    omega
  · have e := Int.neg_tmod A n
    rw [Int.tmod_eq_emod_of_nonneg (show 0 ≤ -A by omega)] at e
    have := Int.emod_nonneg (-A) (show n ≠ 0 by omega)
    have := Int.emod_lt_of_pos (-A) (show 0 < n by omega)
    omega
theorem rLower {A n : Int} {τ : Wd} (hA : R A) (h1 : 1 ≤ n) (h2 : n ≤ 120) : f_X7_lower (I A) (I n) τ = some (I (fl A n), τ) := by
  have mb := tmod_bnd (A := A) h1
  have e1 := I_tdiv hA h1 h2
  have e2 := I_tmod hA h1 h2
  unfold R at hA
  unfold f_X7_lower fl
  by_cases c1 : A.tmod n = 0
  · rw [if_pos c1]
    simp (disch := omega) only [↓reduceIte, gd_t, bd_s, nm_W, nm_I, I_add, I_sub, I_mul, I_neg, I_le_t, I_le_f, I_lt_t, I_lt_f, I_eq_t, I_eq_f, I_inb', I_ix', Int.toNat_natCast, decide_true, decide_false, Bool.not_false, Bool.not_true, if_true, if_false, wi_eq, wi_eq', wi_ne, wi_row, wi_2, N0, N1, N2, N3, N4, N5, N6, N7, N8, N9, N10, N11, N12, N13, N14, N15, N16, N17, N18, N19, N20, N21, N22, N23, N24, N25, N26, N27, N28, N29, N30, N31, N32, N33, N34, N35, N36, N37, N38, N39, N40, N41, N42, N43, N45, N48, N57, N59, N88, N89, N97, N99, N120, N121, N122, N179, N200, N255, N300, N400, N880, N900, N999, N1019, N50000000, N100000000, N1000000000, N2147483647, N2147483648, e1, e2, f_X7_lower_20, f_X7_lower_21]
  · rw [if_neg c1]
    by_cases c2 : 0 ≤ A
    · rw [if_pos c2]
      simp (disch := omega) only [↓reduceIte, gd_t, bd_s, nm_W, nm_I, I_add, I_sub, I_mul, I_neg, I_le_t, I_le_f, I_lt_t, I_lt_f, I_eq_t, I_eq_f, I_inb', I_ix', Int.toNat_natCast, decide_true, decide_false, Bool.not_false, Bool.not_true, if_true, if_false, wi_eq, wi_eq', wi_ne, wi_row, wi_2, N0, N1, N2, N3, N4, N5, N6, N7, N8, N9, N10, N11, N12, N13, N14, N15, N16, N17, N18, N19, N20, N21, N22, N23, N24, N25, N26, N27, N28, N29, N30, N31, N32, N33, N34, N35, N36, N37, N38, N39, N40, N41, N42, N43, N45, N48, N57, N59, N88, N89, N97, N99, N120, N121, N122, N179, N200, N255, N300, N400, N880, N900, N999, N1019, N50000000, N100000000, N1000000000, N2147483647, N2147483648, e1, e2, f_X7_lower_20, f_X7_lower_21]
    · rw [if_neg c2]
      simp (disch := omega) only [↓reduceIte, gd_t, bd_s, nm_W, nm_I, I_add, I_sub, I_mul, I_neg, I_le_t, I_le_f, I_lt_t, I_lt_f, I_eq_t, I_eq_f, I_inb', I_ix', Int.toNat_natCast, decide_true, decide_false, Bool.not_false, Bool.not_true, if_true, if_false, wi_eq, wi_eq', wi_ne, wi_row, wi_2, N0, N1, N2, N3, N4, N5, N6, N7, N8, N9, N10, N11, N12, N13, N14, N15, N16, N17, N18, N19, N20, N21, N22, N23, N24, N25, N26, N27, N28, N29, N30, N31, N32, N33, N34, N35, N36, N37, N38, N39, N40, N41, N42, N43, N45, N48, N57, N59, N88, N89, N97, N99, N120, N121, N122, N179, N200, N255, N300, N400, N880, N900, N999, N1019, N50000000, N100000000, N1000000000, N2147483647, N2147483648, e1, e2, f_X7_lower_20, f_X7_lower_21]
theorem cFloor {A n : Int} {σ : Wd} (hA : R A) (h1 : 1 ≤ n) (h2 : n ≤ 120) : f_J9_floorDiv_7cf53 (I A) (I n) σ = some (I (fl A n), σ) := by
  have mb := tmod_bnd (A := A) h1
  have e1 := I_tdiv hA h1 h2
  have em := Int.mul_tdiv_add_tmod A n
  have en : (0 : Int32) ≤ I n := by
    show I 0 ≤ I n
    rw [I_le (by unfold R; omega) (by unfold R; omega)]; omega
  have ex : ((0 : Int32) ≤ I A ^^^ I n) ↔ 0 ≤ A := by
    rw [nn_xor en, show (0 : Int32) = I 0 from rfl, I_le (by unfold R; omega) hA]
  have n0 : (!decide (I n = 0)) = true := by
    have : ¬ I n = I 0 := by rw [I_eq (by unfold R; omega) (by unfold R; omega)]; omega
    rw [show (0 : Int32) = I 0 from rfl, decide_eq_false this]
    rfl
  have sg : (0 ≤ A → 0 ≤ A.tmod n) ∧ (A ≤ 0 → A.tmod n ≤ 0) := ⟨fun h => Int.tmod_nonneg n h, fun h => by
    have := Int.tmod_nonneg (a := -A) n (by omega)
    rw [Int.neg_tmod] at this
    omega⟩
  have hA' := hA
  unfold R at hA'
  have er : (I (A.tdiv n) * I n = I A) ↔ A.tmod n = 0 := by
    rw [I_mul, Int.mul_comm, I_eq (by unfold R; omega) hA]
    omega
  unfold f_J9_floorDiv_7cf53 f_J9_floorDiv_7cf53_21 fl
  rw [n0, e1]
  show (if (0 : Int32) ≤ I A ^^^ I n then _ else if I (A.tdiv n) * I n = I A then _ else _) = _
  by_cases c2 : 0 ≤ A
  · rw [if_pos (ex.mpr c2)]
    by_cases c1 : A.tmod n = 0
    · rw [if_pos c1]
    · rw [if_neg c1, if_pos c2]
  · rw [if_neg (fun q => c2 (ex.mp q))]
    by_cases c1 : A.tmod n = 0
    · rw [if_pos (er.mpr c1), if_pos c1]
    · rw [if_neg (fun q => c1 (er.mp q)), if_neg c1, if_neg c2, show (1 : Int32) = I 1 from rfl, I_sub]
def finC (r v : Nat) (ow x u : Int32) (σ : Wd) : Wd := wi (wi (wi (wi (wi σ (r + 4) v (σ.1 (r + 4) v + ow)) r 4 (σ.1 r 4 + ow)) r 5 (σ.1 r 5 + (σ.1 (r + 4) v + ow - x))) (r + 1) v (I 3)) (r + 7) v u
def finR (v : Nat) (ow x u : Int32) (τ : Wd) : Wd := wi (wi (wi (wi (wi τ 112 40 (τ.1 112 40 + ow)) 112 41 (τ.1 112 41 + (τ.1 112 (55 + 8 * v) + ow - x))) 112 (48 + 8 * v) (I 3)) 112 (53 + 8 * v) u) 112 (54 + 8 * v) (I (-2))
theorem fin_ok {m r V v : Nat} {d : MD} {σ τ : Wd} {n g t D : Int} (hm : 10 < m) (hmr : m + 12 < r) (hv : v < V) (hd : MDok d V) (hc : CV m σ V d) (hr : RV τ V d)
    (sn : σ.1 (r + 2) v = I n) (sg : σ.1 (r + 3) v = I g) (tn : τ.1 112 (49 + 8 * v) = I n) (tg : τ.1 112 (50 + 8 * v) = I g) (th : τ.1 112 (51 + 8 * v) = σ.1 (r + 5) v) (st : σ.1 r 1 = I t) (tt : τ.1 112 37 = I t) (sd : σ.1 (m + 5) v = I D) (td : τ.1 103 (5 * v + 3) = I D)
    (g0 : 0 ≤ g) (gn : g ≤ n) (n0 : 1 ≤ n) (n1 : n ≤ 120) :
    ∃ ow x : Int32, f_X4_finish r m (I (v : Int)) σ = some (0, finC r v ow x (I (t + D)) σ) ∧ f_X7_endsPart (I (v : Int)) τ = some (0, finR v ow x (I (t + D)) τ) := by
  have v5 : v < 5 := Nat.lt_of_lt_of_le hv hd.1
  have ec := cCharge hc hd hv (n := g) (by omega) (by omega)
  have rc' : ∀ τ', RV τ' V d → f_X7_chargeOf (I (v : Int)) (I g) τ' = some (I (chg (d.kd v) (d.fe v) (d.le v) g), τ') := fun τ' h => rCharge h hd hv (n := g) (by omega) (by omega)
  obtain ⟨A, hA⟩ : ∃ A, A = (σ.1 (r + 5) v * I g).toInt := ⟨_, rfl⟩
  have hAR : R A := by rw [hA]; exact toInt_R _
  have eA : σ.1 (r + 5) v * I g = I A := by rw [hA, I_of]
  have t0 : ((48 : Int) + 8 * (v : Int) + 0).toNat = 48 + 8 * v := by omega
  have t1 : ((48 : Int) + 8 * (v : Int) + 1).toNat = 49 + 8 * v := by omega
  have t2 : ((48 : Int) + 8 * (v : Int) + 2).toNat = 50 + 8 * v := by omega
  have t3 : ((48 : Int) + 8 * (v : Int) + 3).toNat = 51 + 8 * v := by omega
  have t5 : ((48 : Int) + 8 * (v : Int) + 5).toNat = 53 + 8 * v := by omega
  have t6 : ((48 : Int) + 8 * (v : Int) + 6).toNat = 54 + 8 * v := by omega
  have t7 : ((48 : Int) + 8 * (v : Int) + 7).toNat = 55 + 8 * v := by omega
  have t40 : Int.toNat 40 = 40 := rfl
  have t41 : Int.toNat 41 = 41 := rfl
  have t37 : Int.toNat 37 = 37 := rfl
  have told : ∀ τ' : Wd, f_X7_told (I (v : Int)) (I 3) τ' = some (τ'.1 103 (5 * v + 3), τ') := fun τ' => told7 (σ := τ') 3 v5 (by decide)
  refine ⟨I (chg (d.kd v) (d.fe v) (d.le v) g), I (fl A n), ?_, ?_⟩
  · unfold f_X4_finish finC
    simp (disch := omega) only [↓reduceIte, gd_t, bd_s, nm_W, nm_I, I_add, I_sub, I_mul, I_neg, I_le_t, I_le_f, I_lt_t, I_lt_f, I_eq_t, I_eq_f, I_inb', I_ix', Int.toNat_natCast, decide_true, decide_false, Bool.not_false, Bool.not_true, if_true, if_false, wi_eq, wi_eq', wi_ne, wi_row, wi_2, N0, N1, N2, N3, N4, N5, N6, N7, N8, N9, N10, N11, N12, N13, N14, N15, N16, N17, N18, N19, N20, N21, N22, N23, N24, N25, N26, N27, N28, N29, N30, N31, N32, N33, N34, N35, N36, N37, N38, N39, N40, N41, N42, N43, N45, N48, N57, N59, N88, N89, N97, N99, N120, N121, N122, N179, N200, N255, N300, N400, N880, N900, N999, N1019, N50000000, N100000000, N1000000000, N2147483647, N2147483648, sg, ec, sn, eA, cFloor hAR n0 n1, f_X4_finish_79, st, sd]
  · unfold f_X7_endsPart finR f_X7_partAt
    simp (disch := omega) only [↓reduceIte, gd_t, bd_s, nm_W, nm_I, I_add, I_sub, I_mul, I_neg, I_le_t, I_le_f, I_lt_t, I_lt_f, I_eq_t, I_eq_f, I_inb', I_ix', Int.toNat_natCast, decide_true, decide_false, Bool.not_false, Bool.not_true, if_true, if_false, wi_eq, wi_eq', wi_ne, wi_row, wi_2, N0, N1, N2, N3, N4, N5, N6, N7, N8, N9, N10, N11, N12, N13, N14, N15, N16, N17, N18, N19, N20, N21, N22, N23, N24, N25, N26, N27, N28, N29, N30, N31, N32, N33, N34, N35, N36, N37, N38, N39, N40, N41, N42, N43, N45, N48, N57, N59, N88, N89, N97, N99, N120, N121, N122, N179, N200, N255, N300, N400, N880, N900, N999, N1019, N50000000, N100000000, N1000000000, N2147483647, N2147483648, t0, t1, t2, t3, t5, t6, t7, t40, t41, t37, tg, rc' τ hr, tn, th, eA, rLower hAR n0 n1, told, tt, td]
end
section
/-! PURE: a venue's part in a tick -/
/-- what a visit leaves alone -/
def VF (m r v : Nat) (σ τ σ' τ' : Wd) : Prop := ((∀ k, k ≠ m + 9 → k < r ∨ r + 12 < k → σ'.1 k = σ.1 k) ∧ (∀ k, r + 1 ≤ k → k ≤ r + 8 → ∀ w, w ≠ v → σ'.1 k w = σ.1 k w) ∧ (∀ i, 6 ≤ i → i ≤ 7 → σ'.1 r i = σ.1 r i) ∧ σ'.2 = σ.2)
  ∧ ((∀ k, k ≠ 112 → τ'.1 k = τ.1 k) ∧ (∀ i, 48 ≤ i → i < 88 → i < 48 + 8 * v ∨ 56 + 8 * v ≤ i → τ'.1 112 i = τ.1 112 i) ∧ τ'.2 = τ.2)
theorem VF_refl {m r v : Nat} {σ τ : Wd} : VF m r v σ τ σ τ := ⟨⟨fun _ _ _ => rfl, fun _ _ _ _ _ => rfl, fun _ _ _ => rfl, rfl⟩, ⟨fun _ _ => rfl, fun _ _ _ _ => rfl, rfl⟩⟩
theorem VF_trans {m r v : Nat} {σ τ σ1 τ1 σ2 τ2 : Wd} (h : VF m r v σ τ σ1 τ1) (g : VF m r v σ1 τ1 σ2 τ2) : VF m r v σ τ σ2 τ2 :=
  ⟨⟨fun k h1 h2 => by rw [g.1.1 k h1 h2, h.1.1 k h1 h2], fun k h1 h2 w hw => by rw [g.1.2.1 k h1 h2 w hw, h.1.2.1 k h1 h2 w hw], fun i a b => by rw [g.1.2.2.1 i a b, h.1.2.2.1 i a b], by rw [g.1.2.2.2, h.1.2.2.2]⟩,
    ⟨fun k hk => by rw [g.2.1 k hk, h.2.1 k hk], fun i h1 h2 h3 => by rw [g.2.2.1 i h1 h2 h3, h.2.2.1 i h1 h2 h3], by rw [g.2.2.2, h.2.2.2]⟩⟩
theorem v_skip {m r v : Nat} {σ : Wd} {h : Int} (v5 : v < 5) (h1 : σ.1 (r + 1) v = I h) (hh : h = 0) : f_X4_visit r m (I (v : Int)) σ = some (0, σ) := by
  unfold f_X4_visit f_X4_visit_45
  simp (disch := omega) only [↓reduceIte, gd_t, bd_s, nm_W, nm_I, I_add, I_sub, I_mul, I_neg, I_le_t, I_le_f, I_lt_t, I_lt_f, I_eq_t, I_eq_f, I_inb', I_ix', Int.toNat_natCast, decide_true, decide_false, Bool.not_false, Bool.not_true, if_true, if_false, wi_eq, wi_eq', wi_ne, wi_row, wi_2, N0, N1, N2, N3, N4, N5, N6, N7, N8, N9, N10, N11, N12, N13, N14, N15, N16, N17, N18, N19, N20, N21, N22, N23, N24, N25, N26, N27, N28, N29, N30, N31, N32, N33, N34, N35, N36, N37, N38, N39, N40, N41, N42, N43, N45, N48, N57, N59, N88, N89, N97, N99, N120, N121, N122, N179, N200, N255, N300, N400, N880, N900, N999, N1019, N50000000, N100000000, N1000000000, N2147483647, N2147483648, h1, f_X4_visit_154]
theorem v_wait {m r v : Nat} {σ : Wd} {h t u : Int} (v5 : v < 5) (h1 : σ.1 (r + 1) v = I h) (hh : h = 1 ∨ h = 3) (r1 : σ.1 r 1 = I t) (h7 : σ.1 (r + 7) v = I u) (t0 : 0 ≤ t) (t1 : t < u) (u1 : u ≤ 2000000) : f_X4_visit r m (I (v : Int)) σ = some (0, σ) := by
  unfold f_X4_visit f_X4_visit_45
  rcases hh with hh | hh
  · simp (disch := omega) only [↓reduceIte, gd_t, bd_s, nm_W, nm_I, I_add, I_sub, I_mul, I_neg, I_le_t, I_le_f, I_lt_t, I_lt_f, I_eq_t, I_eq_f, I_inb', I_ix', Int.toNat_natCast, decide_true, decide_false, Bool.not_false, Bool.not_true, if_true, if_false, wi_eq, wi_eq', wi_ne, wi_row, wi_2, N0, N1, N2, N3, N4, N5, N6, N7, N8, N9, N10, N11, N12, N13, N14, N15, N16, N17, N18, N19, N20, N21, N22, N23, N24, N25, N26, N27, N28, N29, N30, N31, N32, N33, N34, N35, N36, N37, N38, N39, N40, N41, N42, N43, N45, N48, N57, N59, N88, N89, N97, N99, N120, N121, N122, N179, N200, N255, N300, N400, N880, N900, N999, N1019, N50000000, N100000000, N1000000000, N2147483647, N2147483648, h1, r1, h7, f_X4_visit_154]
  · simp (disch := omega) only [↓reduceIte, gd_t, bd_s, nm_W, nm_I, I_add, I_sub, I_mul, I_neg, I_le_t, I_le_f, I_lt_t, I_lt_f, I_eq_t, I_eq_f, I_inb', I_ix', Int.toNat_natCast, decide_true, decide_false, Bool.not_false, Bool.not_true, if_true, if_false, wi_eq, wi_eq', wi_ne, wi_row, wi_2, N0, N1, N2, N3, N4, N5, N6, N7, N8, N9, N10, N11, N12, N13, N14, N15, N16, N17, N18, N19, N20, N21, N22, N23, N24, N25, N26, N27, N28, N29, N30, N31, N32, N33, N34, N35, N36, N37, N38, N39, N40, N41, N42, N43, N45, N48, N57, N59, N88, N89, N97, N99, N120, N121, N122, N179, N200, N255, N300, N400, N880, N900, N999, N1019, N50000000, N100000000, N1000000000, N2147483647, N2147483648, h1, r1, h7, f_X4_visit_154]
theorem v_come {m r v : Nat} {σ : Wd} {t L : Int} (v5 : v < 5) (mr : m + 12 < r) (h1 : σ.1 (r + 1) v = I 1) (r1 : σ.1 r 1 = I t) (h7 : σ.1 (r + 7) v = I t) (t0 : 0 ≤ t) (t1 : t ≤ 2000000) (m5 : σ.1 m 2 = I L) : f_X4_visit r m (I (v : Int)) σ = f_X4_visit_45 r m (I (v : Int)) (wi (wi σ (r + 1) v (I 2)) (r + 7) v (I (t + L))) := by
  unfold f_X4_visit
  simp (disch := omega) only [↓reduceIte, gd_t, bd_s, nm_W, nm_I, I_add, I_sub, I_mul, I_neg, I_le_t, I_le_f, I_lt_t, I_lt_f, I_eq_t, I_eq_f, I_inb', I_ix', Int.toNat_natCast, decide_true, decide_false, Bool.not_false, Bool.not_true, if_true, if_false, wi_eq, wi_eq', wi_ne, wi_row, wi_2, N0, N1, N2, N3, N4, N5, N6, N7, N8, N9, N10, N11, N12, N13, N14, N15, N16, N17, N18, N19, N20, N21, N22, N23, N24, N25, N26, N27, N28, N29, N30, N31, N32, N33, N34, N35, N36, N37, N38, N39, N40, N41, N42, N43, N45, N48, N57, N59, N88, N89, N97, N99, N120, N121, N122, N179, N200, N255, N300, N400, N880, N900, N999, N1019, N50000000, N100000000, N1000000000, N2147483647, N2147483648, h1, r1, h7, m5]
theorem v_rest {m r v : Nat} {σ : Wd} (v5 : v < 5) (h1 : σ.1 (r + 1) v = I 2) : f_X4_visit r m (I (v : Int)) σ = f_X4_visit_45 r m (I (v : Int)) σ := by
  unfold f_X4_visit
  simp (disch := omega) only [↓reduceIte, gd_t, bd_s, nm_W, nm_I, I_add, I_sub, I_mul, I_neg, I_le_t, I_le_f, I_lt_t, I_lt_f, I_eq_t, I_eq_f, I_inb', I_ix', Int.toNat_natCast, decide_true, decide_false, Bool.not_false, Bool.not_true, if_true, if_false, wi_eq, wi_eq', wi_ne, wi_row, wi_2, N0, N1, N2, N3, N4, N5, N6, N7, N8, N9, N10, N11, N12, N13, N14, N15, N16, N17, N18, N19, N20, N21, N22, N23, N24, N25, N26, N27, N28, N29, N30, N31, N32, N33, N34, N35, N36, N37, N38, N39, N40, N41, N42, N43, N45, N48, N57, N59, N88, N89, N97, N99, N120, N121, N122, N179, N200, N255, N300, N400, N880, N900, N999, N1019, N50000000, N100000000, N1000000000, N2147483647, N2147483648, h1]
theorem v_answ {m r v : Nat} {σ : Wd} {t s g : Int} (v5 : v < 5) (h1 : σ.1 (r + 1) v = I 3) (r1 : σ.1 r 1 = I t) (h7 : σ.1 (r + 7) v = I t) (t0 : 0 ≤ t) (t1 : t ≤ 2000000) (r2 : σ.1 r 2 = I s) (h3 : σ.1 (r + 3) v = I g) : f_X4_visit r m (I (v : Int)) σ = some (0, dropW r v (wi σ r 2 (I (s - g)))) := by
  unfold f_X4_visit f_X4_visit_45
  simp (disch := omega) only [↓reduceIte, gd_t, bd_s, nm_W, nm_I, I_add, I_sub, I_mul, I_neg, I_le_t, I_le_f, I_lt_t, I_lt_f, I_eq_t, I_eq_f, I_inb', I_ix', Int.toNat_natCast, decide_true, decide_false, Bool.not_false, Bool.not_true, if_true, if_false, wi_eq, wi_eq', wi_ne, wi_row, wi_2, N0, N1, N2, N3, N4, N5, N6, N7, N8, N9, N10, N11, N12, N13, N14, N15, N16, N17, N18, N19, N20, N21, N22, N23, N24, N25, N26, N27, N28, N29, N30, N31, N32, N33, N34, N35, N36, N37, N38, N39, N40, N41, N42, N43, N45, N48, N57, N59, N88, N89, N97, N99, N120, N121, N122, N179, N200, N255, N300, N400, N880, N900, N999, N1019, N50000000, N100000000, N1000000000, N2147483647, N2147483648, h1, r1, h7, r2, h3, cDrop v5, f_X4_visit_154]
theorem v_buy {m r v : Nat} {σ σb : Wd} {t g n k u : Int} (v5 : v < 5) (h1 : σ.1 (r + 1) v = I 2) (q1 : f_X4_buy r m (I (v : Int)) σ = some (0, σb)) (a1 : σb.1 (r + 3) v = I g) (b2 : σb.1 (r + 2) v = I n) (b8 : σb.1 (r + 8) v = I k) (st : σb.1 r 1 = I t) (b7 : σb.1 (r + 7) v = I u)
    (g0 : 0 ≤ g) (g1 : g ≤ n) (n1 : n ≤ 120) (k0 : -2 ≤ k) (k1 : k ≤ 2000000) (t0 : 0 ≤ t) (t1 : t ≤ 2000000) (u0 : t ≤ u) (u1 : u ≤ 2000000) : f_X4_visit_45 r m (I (v : Int)) σ = if g ≠ n ∧ k ≠ t ∧ t < u then some (0, σb) else f_X4_visit_102 r m (I (v : Int)) σb := by
  by_cases d1 : g = n
  · rw [if_neg (fun q => q.1 d1)]
    unfold f_X4_visit_45
    simp (disch := omega) only [↓reduceIte, gd_t, bd_s, nm_W, nm_I, I_add, I_sub, I_mul, I_neg, I_le_t, I_le_f, I_lt_t, I_lt_f, I_eq_t, I_eq_f, I_inb', I_ix', Int.toNat_natCast, decide_true, decide_false, Bool.not_false, Bool.not_true, if_true, if_false, wi_eq, wi_eq', wi_ne, wi_row, wi_2, N0, N1, N2, N3, N4, N5, N6, N7, N8, N9, N10, N11, N12, N13, N14, N15, N16, N17, N18, N19, N20, N21, N22, N23, N24, N25, N26, N27, N28, N29, N30, N31, N32, N33, N34, N35, N36, N37, N38, N39, N40, N41, N42, N43, N45, N48, N57, N59, N88, N89, N97, N99, N120, N121, N122, N179, N200, N255, N300, N400, N880, N900, N999, N1019, N50000000, N100000000, N1000000000, N2147483647, N2147483648, h1, q1, a1, b2]
  · by_cases d2 : k = t
    · rw [if_neg (fun q => q.2.1 d2)]
      unfold f_X4_visit_45
      simp (disch := omega) only [↓reduceIte, gd_t, bd_s, nm_W, nm_I, I_add, I_sub, I_mul, I_neg, I_le_t, I_le_f, I_lt_t, I_lt_f, I_eq_t, I_eq_f, I_inb', I_ix', Int.toNat_natCast, decide_true, decide_false, Bool.not_false, Bool.not_true, if_true, if_false, wi_eq, wi_eq', wi_ne, wi_row, wi_2, N0, N1, N2, N3, N4, N5, N6, N7, N8, N9, N10, N11, N12, N13, N14, N15, N16, N17, N18, N19, N20, N21, N22, N23, N24, N25, N26, N27, N28, N29, N30, N31, N32, N33, N34, N35, N36, N37, N38, N39, N40, N41, N42, N43, N45, N48, N57, N59, N88, N89, N97, N99, N120, N121, N122, N179, N200, N255, N300, N400, N880, N900, N999, N1019, N50000000, N100000000, N1000000000, N2147483647, N2147483648, h1, q1, a1, b2, b8, st]
    · by_cases d3 : t < u
      · rw [if_pos ⟨d1, d2, d3⟩]
        unfold f_X4_visit_45
        simp (disch := omega) only [↓reduceIte, gd_t, bd_s, nm_W, nm_I, I_add, I_sub, I_mul, I_neg, I_le_t, I_le_f, I_lt_t, I_lt_f, I_eq_t, I_eq_f, I_inb', I_ix', Int.toNat_natCast, decide_true, decide_false, Bool.not_false, Bool.not_true, if_true, if_false, wi_eq, wi_eq', wi_ne, wi_row, wi_2, N0, N1, N2, N3, N4, N5, N6, N7, N8, N9, N10, N11, N12, N13, N14, N15, N16, N17, N18, N19, N20, N21, N22, N23, N24, N25, N26, N27, N28, N29, N30, N31, N32, N33, N34, N35, N36, N37, N38, N39, N40, N41, N42, N43, N45, N48, N57, N59, N88, N89, N97, N99, N120, N121, N122, N179, N200, N255, N300, N400, N880, N900, N999, N1019, N50000000, N100000000, N1000000000, N2147483647, N2147483648, h1, q1, a1, b2, b8, st, b7, f_X4_visit_154]
      · rw [if_neg (fun q => d3 q.2.2)]
        unfold f_X4_visit_45
        simp (disch := omega) only [↓reduceIte, gd_t, bd_s, nm_W, nm_I, I_add, I_sub, I_mul, I_neg, I_le_t, I_le_f, I_lt_t, I_lt_f, I_eq_t, I_eq_f, I_inb', I_ix', Int.toNat_natCast, decide_true, decide_false, Bool.not_false, Bool.not_true, if_true, if_false, wi_eq, wi_eq', wi_ne, wi_row, wi_2, N0, N1, N2, N3, N4, N5, N6, N7, N8, N9, N10, N11, N12, N13, N14, N15, N16, N17, N18, N19, N20, N21, N22, N23, N24, N25, N26, N27, N28, N29, N30, N31, N32, N33, N34, N35, N36, N37, N38, N39, N40, N41, N42, N43, N45, N48, N57, N59, N88, N89, N97, N99, N120, N121, N122, N179, N200, N255, N300, N400, N880, N900, N999, N1019, N50000000, N100000000, N1000000000, N2147483647, N2147483648, h1, q1, a1, b2, b8, st, b7]
/-! the reference's -/
theorem g_at (v j : Nat) : ((48 : Int) + 8 * (v : Int) + (j : Int)).toNat = 48 + j + 8 * v := by omega
theorem w48_0 (v : Nat) : ((48 : Int) + 8 * (v : Int) + 0).toNat = 48 + 8 * v := by omega
theorem w48_1 (v : Nat) : ((48 : Int) + 8 * (v : Int) + 1).toNat = 49 + 8 * v := by omega
theorem w48_2 (v : Nat) : ((48 : Int) + 8 * (v : Int) + 2).toNat = 50 + 8 * v := by omega
theorem w48_5 (v : Nat) : ((48 : Int) + 8 * (v : Int) + 5).toNat = 53 + 8 * v := by omega
theorem w48_6 (v : Nat) : ((48 : Int) + 8 * (v : Int) + 6).toNat = 54 + 8 * v := by omega
theorem tn37 : Int.toNat 37 = 37 := rfl
theorem tn38 : Int.toNat 38 = 38 := rfl
theorem g_skip {v : Nat} {τ : Wd} {h : Int} (v5 : v < 5) (h1 : τ.1 112 (48 + 8 * v) = I h) (hh : h = 0) : f_X7_goesAt (I (v : Int)) τ = some (I 0, τ) := by
  unfold f_X7_goesAt f_X7_partAt
  simp (disch := omega) only [↓reduceIte, gd_t, bd_s, nm_W, nm_I, I_add, I_sub, I_mul, I_neg, I_le_t, I_le_f, I_lt_t, I_lt_f, I_eq_t, I_eq_f, I_inb', I_ix', Int.toNat_natCast, decide_true, decide_false, Bool.not_false, Bool.not_true, if_true, if_false, wi_eq, wi_eq', wi_ne, wi_row, wi_2, N0, N1, N2, N3, N4, N5, N6, N7, N8, N9, N10, N11, N12, N13, N14, N15, N16, N17, N18, N19, N20, N21, N22, N23, N24, N25, N26, N27, N28, N29, N30, N31, N32, N33, N34, N35, N36, N37, N38, N39, N40, N41, N42, N43, N45, N48, N57, N59, N88, N89, N97, N99, N120, N121, N122, N179, N200, N255, N300, N400, N880, N900, N999, N1019, N50000000, N100000000, N1000000000, N2147483647, N2147483648, w48_0, h1]
  unfold f_X7_goesAt_64
  simp (disch := omega) only [↓reduceIte, gd_t, bd_s, nm_W, nm_I, I_add, I_sub, I_mul, I_neg, I_le_t, I_le_f, I_lt_t, I_lt_f, I_eq_t, I_eq_f, I_inb', I_ix', Int.toNat_natCast, decide_true, decide_false, Bool.not_false, Bool.not_true, if_true, if_false, wi_eq, wi_eq', wi_ne, wi_row, wi_2, N0, N1, N2, N3, N4, N5, N6, N7, N8, N9, N10, N11, N12, N13, N14, N15, N16, N17, N18, N19, N20, N21, N22, N23, N24, N25, N26, N27, N28, N29, N30, N31, N32, N33, N34, N35, N36, N37, N38, N39, N40, N41, N42, N43, N45, N48, N57, N59, N88, N89, N97, N99, N120, N121, N122, N179, N200, N255, N300, N400, N880, N900, N999, N1019, N50000000, N100000000, N1000000000, N2147483647, N2147483648, w48_0, h1, f_X7_goesAt_198]
theorem g_wait {v : Nat} {τ : Wd} {h t u : Int} (v5 : v < 5) (h1 : τ.1 112 (48 + 8 * v) = I h) (hh : h = 1 ∨ h = 3) (r1 : τ.1 112 37 = I t) (h7 : τ.1 112 (53 + 8 * v) = I u) (t0 : 0 ≤ t) (t1 : t < u) (u1 : u ≤ 2000000) : f_X7_goesAt (I (v : Int)) τ = some (I 0, τ) := by
  unfold f_X7_goesAt f_X7_partAt
  rcases hh with hh | hh
  · simp (disch := omega) only [↓reduceIte, gd_t, bd_s, nm_W, nm_I, I_add, I_sub, I_mul, I_neg, I_le_t, I_le_f, I_lt_t, I_lt_f, I_eq_t, I_eq_f, I_inb', I_ix', Int.toNat_natCast, decide_true, decide_false, Bool.not_false, Bool.not_true, if_true, if_false, wi_eq, wi_eq', wi_ne, wi_row, wi_2, N0, N1, N2, N3, N4, N5, N6, N7, N8, N9, N10, N11, N12, N13, N14, N15, N16, N17, N18, N19, N20, N21, N22, N23, N24, N25, N26, N27, N28, N29, N30, N31, N32, N33, N34, N35, N36, N37, N38, N39, N40, N41, N42, N43, N45, N48, N57, N59, N88, N89, N97, N99, N120, N121, N122, N179, N200, N255, N300, N400, N880, N900, N999, N1019, N50000000, N100000000, N1000000000, N2147483647, N2147483648, w48_0, h1, w48_5, tn37, h7, r1]
    unfold f_X7_goesAt_64
    simp (disch := omega) only [↓reduceIte, gd_t, bd_s, nm_W, nm_I, I_add, I_sub, I_mul, I_neg, I_le_t, I_le_f, I_lt_t, I_lt_f, I_eq_t, I_eq_f, I_inb', I_ix', Int.toNat_natCast, decide_true, decide_false, Bool.not_false, Bool.not_true, if_true, if_false, wi_eq, wi_eq', wi_ne, wi_row, wi_2, N0, N1, N2, N3, N4, N5, N6, N7, N8, N9, N10, N11, N12, N13, N14, N15, N16, N17, N18, N19, N20, N21, N22, N23, N24, N25, N26, N27, N28, N29, N30, N31, N32, N33, N34, N35, N36, N37, N38, N39, N40, N41, N42, N43, N45, N48, N57, N59, N88, N89, N97, N99, N120, N121, N122, N179, N200, N255, N300, N400, N880, N900, N999, N1019, N50000000, N100000000, N1000000000, N2147483647, N2147483648, w48_0, h1, w48_5, tn37, h7, r1, f_X7_goesAt_198]
  · simp (disch := omega) only [↓reduceIte, gd_t, bd_s, nm_W, nm_I, I_add, I_sub, I_mul, I_neg, I_le_t, I_le_f, I_lt_t, I_lt_f, I_eq_t, I_eq_f, I_inb', I_ix', Int.toNat_natCast, decide_true, decide_false, Bool.not_false, Bool.not_true, if_true, if_false, wi_eq, wi_eq', wi_ne, wi_row, wi_2, N0, N1, N2, N3, N4, N5, N6, N7, N8, N9, N10, N11, N12, N13, N14, N15, N16, N17, N18, N19, N20, N21, N22, N23, N24, N25, N26, N27, N28, N29, N30, N31, N32, N33, N34, N35, N36, N37, N38, N39, N40, N41, N42, N43, N45, N48, N57, N59, N88, N89, N97, N99, N120, N121, N122, N179, N200, N255, N300, N400, N880, N900, N999, N1019, N50000000, N100000000, N1000000000, N2147483647, N2147483648, w48_0, h1, w48_5, tn37, h7, r1]
    unfold f_X7_goesAt_64
    simp (disch := omega) only [↓reduceIte, gd_t, bd_s, nm_W, nm_I, I_add, I_sub, I_mul, I_neg, I_le_t, I_le_f, I_lt_t, I_lt_f, I_eq_t, I_eq_f, I_inb', I_ix', Int.toNat_natCast, decide_true, decide_false, Bool.not_false, Bool.not_true, if_true, if_false, wi_eq, wi_eq', wi_ne, wi_row, wi_2, N0, N1, N2, N3, N4, N5, N6, N7, N8, N9, N10, N11, N12, N13, N14, N15, N16, N17, N18, N19, N20, N21, N22, N23, N24, N25, N26, N27, N28, N29, N30, N31, N32, N33, N34, N35, N36, N37, N38, N39, N40, N41, N42, N43, N45, N48, N57, N59, N88, N89, N97, N99, N120, N121, N122, N179, N200, N255, N300, N400, N880, N900, N999, N1019, N50000000, N100000000, N1000000000, N2147483647, N2147483648, w48_0, h1, w48_5, tn37, h7, r1, f_X7_goesAt_198]
theorem g_come {v : Nat} {τ : Wd} {t L : Int} (v5 : v < 5) (h1 : τ.1 112 (48 + 8 * v) = I 1) (r1 : τ.1 112 37 = I t) (h7 : τ.1 112 (53 + 8 * v) = I t) (m5 : τ.1 102 13 = I L) : f_X7_goesAt (I (v : Int)) τ = f_X7_goesAt_64 (I (v : Int)) (I (48 + 8 * (v : Int))) (wi (wi τ 112 (48 + 8 * v) (I 2)) 112 (53 + 8 * v) (I (t + L))) := by
  unfold f_X7_goesAt f_X7_partAt
  simp (disch := omega) only [↓reduceIte, gd_t, bd_s, nm_W, nm_I, I_add, I_sub, I_mul, I_neg, I_le_t, I_le_f, I_lt_t, I_lt_f, I_eq_t, I_eq_f, I_inb', I_ix', Int.toNat_natCast, decide_true, decide_false, Bool.not_false, Bool.not_true, if_true, if_false, wi_eq, wi_eq', wi_ne, wi_row, wi_2, N0, N1, N2, N3, N4, N5, N6, N7, N8, N9, N10, N11, N12, N13, N14, N15, N16, N17, N18, N19, N20, N21, N22, N23, N24, N25, N26, N27, N28, N29, N30, N31, N32, N33, N34, N35, N36, N37, N38, N39, N40, N41, N42, N43, N45, N48, N57, N59, N88, N89, N97, N99, N120, N121, N122, N179, N200, N255, N300, N400, N880, N900, N999, N1019, N50000000, N100000000, N1000000000, N2147483647, N2147483648, w48_0, h1, w48_5, tn37, h7, r1, m5]
theorem g_rest {v : Nat} {τ : Wd} (v5 : v < 5) (h1 : τ.1 112 (48 + 8 * v) = I 2) : f_X7_goesAt (I (v : Int)) τ = f_X7_goesAt_64 (I (v : Int)) (I (48 + 8 * (v : Int))) τ := by
  unfold f_X7_goesAt f_X7_partAt
  simp (disch := omega) only [↓reduceIte, gd_t, bd_s, nm_W, nm_I, I_add, I_sub, I_mul, I_neg, I_le_t, I_le_f, I_lt_t, I_lt_f, I_eq_t, I_eq_f, I_inb', I_ix', Int.toNat_natCast, decide_true, decide_false, Bool.not_false, Bool.not_true, if_true, if_false, wi_eq, wi_eq', wi_ne, wi_row, wi_2, N0, N1, N2, N3, N4, N5, N6, N7, N8, N9, N10, N11, N12, N13, N14, N15, N16, N17, N18, N19, N20, N21, N22, N23, N24, N25, N26, N27, N28, N29, N30, N31, N32, N33, N34, N35, N36, N37, N38, N39, N40, N41, N42, N43, N45, N48, N57, N59, N88, N89, N97, N99, N120, N121, N122, N179, N200, N255, N300, N400, N880, N900, N999, N1019, N50000000, N100000000, N1000000000, N2147483647, N2147483648, w48_0, h1]
theorem g_answ {v : Nat} {τ τ' : Wd} {t s g : Int} (v5 : v < 5) (h1 : τ.1 112 (48 + 8 * v) = I 3) (r1 : τ.1 112 37 = I t) (h7 : τ.1 112 (53 + 8 * v) = I t) (r2 : τ.1 112 38 = I s) (h3 : τ.1 112 (50 + 8 * v) = I g) (q1 : f_X7_clearsPart (I (v : Int)) (wi τ 112 38 (I (s - g))) = some (0, τ')) : f_X7_goesAt (I (v : Int)) τ = some (I 0, τ') := by
  unfold f_X7_goesAt f_X7_partAt
  simp (disch := omega) only [↓reduceIte, gd_t, bd_s, nm_W, nm_I, I_add, I_sub, I_mul, I_neg, I_le_t, I_le_f, I_lt_t, I_lt_f, I_eq_t, I_eq_f, I_inb', I_ix', Int.toNat_natCast, decide_true, decide_false, Bool.not_false, Bool.not_true, if_true, if_false, wi_eq, wi_eq', wi_ne, wi_row, wi_2, N0, N1, N2, N3, N4, N5, N6, N7, N8, N9, N10, N11, N12, N13, N14, N15, N16, N17, N18, N19, N20, N21, N22, N23, N24, N25, N26, N27, N28, N29, N30, N31, N32, N33, N34, N35, N36, N37, N38, N39, N40, N41, N42, N43, N45, N48, N57, N59, N88, N89, N97, N99, N120, N121, N122, N179, N200, N255, N300, N400, N880, N900, N999, N1019, N50000000, N100000000, N1000000000, N2147483647, N2147483648, w48_0, h1, w48_5, tn37, h7, r1]
  unfold f_X7_goesAt_64
  simp (disch := omega) only [↓reduceIte, gd_t, bd_s, nm_W, nm_I, I_add, I_sub, I_mul, I_neg, I_le_t, I_le_f, I_lt_t, I_lt_f, I_eq_t, I_eq_f, I_inb', I_ix', Int.toNat_natCast, decide_true, decide_false, Bool.not_false, Bool.not_true, if_true, if_false, wi_eq, wi_eq', wi_ne, wi_row, wi_2, N0, N1, N2, N3, N4, N5, N6, N7, N8, N9, N10, N11, N12, N13, N14, N15, N16, N17, N18, N19, N20, N21, N22, N23, N24, N25, N26, N27, N28, N29, N30, N31, N32, N33, N34, N35, N36, N37, N38, N39, N40, N41, N42, N43, N45, N48, N57, N59, N88, N89, N97, N99, N120, N121, N122, N179, N200, N255, N300, N400, N880, N900, N999, N1019, N50000000, N100000000, N1000000000, N2147483647, N2147483648, w48_0, h1, w48_5, tn37, h7, r1, tn38, w48_2, r2, h3, q1, f_X7_goesAt_198]
theorem g_buy {v : Nat} {τ τb : Wd} {t g n k u : Int} {nb : Int32} (v5 : v < 5) (h1 : τ.1 112 (48 + 8 * v) = I 2) (q2 : f_X7_buys (I (v : Int)) τ = some (nb, τb)) (a2 : τb.1 112 (50 + 8 * v) = I g) (e49 : τb.1 112 (49 + 8 * v) = I n) (e54 : τb.1 112 (54 + 8 * v) = I k) (tt : τb.1 112 37 = I t) (e53 : τb.1 112 (53 + 8 * v) = I u)
    (g0 : 0 ≤ g) (g1 : g ≤ n) (n1 : n ≤ 120) (k0 : -2 ≤ k) (k1 : k ≤ 2000000) (t0 : 0 ≤ t) (t1 : t ≤ 2000000) (u0 : t ≤ u) (u1 : u ≤ 2000000) : f_X7_goesAt_64 (I (v : Int)) (I (48 + 8 * (v : Int))) τ = if g ≠ n ∧ k ≠ t ∧ t < u then some (nb, τb) else f_X7_goesAt_138 (I (v : Int)) nb τb := by
  by_cases d1 : g = n
  · rw [if_neg (fun q => q.1 d1)]
    unfold f_X7_goesAt_64
    simp (disch := omega) only [↓reduceIte, gd_t, bd_s, nm_W, nm_I, I_add, I_sub, I_mul, I_neg, I_le_t, I_le_f, I_lt_t, I_lt_f, I_eq_t, I_eq_f, I_inb', I_ix', Int.toNat_natCast, decide_true, decide_false, Bool.not_false, Bool.not_true, if_true, if_false, wi_eq, wi_eq', wi_ne, wi_row, wi_2, N0, N1, N2, N3, N4, N5, N6, N7, N8, N9, N10, N11, N12, N13, N14, N15, N16, N17, N18, N19, N20, N21, N22, N23, N24, N25, N26, N27, N28, N29, N30, N31, N32, N33, N34, N35, N36, N37, N38, N39, N40, N41, N42, N43, N45, N48, N57, N59, N88, N89, N97, N99, N120, N121, N122, N179, N200, N255, N300, N400, N880, N900, N999, N1019, N50000000, N100000000, N1000000000, N2147483647, N2147483648, w48_0, h1, q2, w48_2, w48_1, a2, e49]
  · by_cases d2 : k = t
    · rw [if_neg (fun q => q.2.1 d2)]
      unfold f_X7_goesAt_64
      simp (disch := omega) only [↓reduceIte, gd_t, bd_s, nm_W, nm_I, I_add, I_sub, I_mul, I_neg, I_le_t, I_le_f, I_lt_t, I_lt_f, I_eq_t, I_eq_f, I_inb', I_ix', Int.toNat_natCast, decide_true, decide_false, Bool.not_false, Bool.not_true, if_true, if_false, wi_eq, wi_eq', wi_ne, wi_row, wi_2, N0, N1, N2, N3, N4, N5, N6, N7, N8, N9, N10, N11, N12, N13, N14, N15, N16, N17, N18, N19, N20, N21, N22, N23, N24, N25, N26, N27, N28, N29, N30, N31, N32, N33, N34, N35, N36, N37, N38, N39, N40, N41, N42, N43, N45, N48, N57, N59, N88, N89, N97, N99, N120, N121, N122, N179, N200, N255, N300, N400, N880, N900, N999, N1019, N50000000, N100000000, N1000000000, N2147483647, N2147483648, w48_0, h1, q2, w48_2, w48_1, a2, e49, w48_6, tn37, e54, tt]
    · by_cases d3 : t < u
      · rw [if_pos ⟨d1, d2, d3⟩]
        unfold f_X7_goesAt_64
        simp (disch := omega) only [↓reduceIte, gd_t, bd_s, nm_W, nm_I, I_add, I_sub, I_mul, I_neg, I_le_t, I_le_f, I_lt_t, I_lt_f, I_eq_t, I_eq_f, I_inb', I_ix', Int.toNat_natCast, decide_true, decide_false, Bool.not_false, Bool.not_true, if_true, if_false, wi_eq, wi_eq', wi_ne, wi_row, wi_2, N0, N1, N2, N3, N4, N5, N6, N7, N8, N9, N10, N11, N12, N13, N14, N15, N16, N17, N18, N19, N20, N21, N22, N23, N24, N25, N26, N27, N28, N29, N30, N31, N32, N33, N34, N35, N36, N37, N38, N39, N40, N41, N42, N43, N45, N48, N57, N59, N88, N89, N97, N99, N120, N121, N122, N179, N200, N255, N300, N400, N880, N900, N999, N1019, N50000000, N100000000, N1000000000, N2147483647, N2147483648, w48_0, h1, q2, w48_2, w48_1, a2, e49, w48_6, tn37, e54, tt, w48_5, e53, f_X7_goesAt_143]
      · rw [if_neg (fun q => d3 q.2.2)]
        unfold f_X7_goesAt_64
        simp (disch := omega) only [↓reduceIte, gd_t, bd_s, nm_W, nm_I, I_add, I_sub, I_mul, I_neg, I_le_t, I_le_f, I_lt_t, I_lt_f, I_eq_t, I_eq_f, I_inb', I_ix', Int.toNat_natCast, decide_true, decide_false, Bool.not_false, Bool.not_true, if_true, if_false, wi_eq, wi_eq', wi_ne, wi_row, wi_2, N0, N1, N2, N3, N4, N5, N6, N7, N8, N9, N10, N11, N12, N13, N14, N15, N16, N17, N18, N19, N20, N21, N22, N23, N24, N25, N26, N27, N28, N29, N30, N31, N32, N33, N34, N35, N36, N37, N38, N39, N40, N41, N42, N43, N45, N48, N57, N59, N88, N89, N97, N99, N120, N121, N122, N179, N200, N255, N300, N400, N880, N900, N999, N1019, N50000000, N100000000, N1000000000, N2147483647, N2147483648, w48_0, h1, q2, w48_2, w48_1, a2, e49, w48_6, tn37, e54, tt, w48_5, e53]
set_option maxHeartbeats 2000000 in
theorem fin_all {m r V v : Nat} {d : MD} {σ τ : Wd} {p L W : Int} {dl pl : Nat → Int} {b : Bool} {t s n g c : Int} (hm : 10 < m) (hmr : m + 12 < r) (hv : v < V) (hM : QM m σ τ V d p L W dl pl) (hR : QR r σ τ b t s) (hL : LR (r + 9) σ τ V d)
    (b2 : σ.1 (r + 2) v = I n) (e49 : τ.1 112 (49 + 8 * v) = I n) (a1 : σ.1 (r + 3) v = I g) (a2 : τ.1 112 (50 + 8 * v) = I g) (e51 : τ.1 112 (51 + 8 * v) = σ.1 (r + 5) v) (b6 : σ.1 (r + 6) v = I c) (e52 : τ.1 112 (52 + 8 * v) = I c) (c0 : 0 ≤ c) (c1 : c ≤ 999) (e55 : τ.1 112 (55 + 8 * v) = σ.1 (r + 4) v)
    (g0 : 0 ≤ g) (gn : g ≤ n) (n0 : 1 ≤ n) (n1 : n ≤ 120) :
    ∃ (σ' τ' : Wd), f_X4_finish r m (I (v : Int)) σ = some (0, σ') ∧ f_X7_endsPart (I (v : Int)) τ = some (0, τ') ∧ QM m σ' τ' V d p L W dl pl ∧ QR r σ' τ' b t s ∧ QP r σ' τ' t t v 3 n g ∧ LR (r + 9) σ' τ' V d ∧ σ'.1 r 3 = σ.1 r 3 ∧ VF m r v σ τ σ' τ' := by
  have v5 : v < 5 := Nat.lt_of_lt_of_le hv hM.1.1
  obtain ⟨D1, D2, D3, D4⟩ := hM.2.2.2.2.2.2.1 v hv
  obtain ⟨ow, xx, z1, z2⟩ := fin_ok (t := t) (D := dl v) hm hmr hv hM.1 hM.2.1 hM.2.2.1 b2 a1 e49 a2 e51 hR.2.1.1 hR.2.1.2.1 D1 D2 g0 gn n0 n1
  obtain ⟨σf, hσf⟩ : ∃ s, s = finC r v ow xx (I (t + dl v)) σ := ⟨_, rfl⟩
  obtain ⟨τf, hτf⟩ : ∃ s, s = finR v ow xx (I (t + dl v)) τ := ⟨_, rfl⟩
  rw [← hσf] at z1
  rw [← hτf] at z2
  have fc : ∀ j, j ≠ r → j ≠ r + 1 → j ≠ r + 4 → j ≠ r + 7 → σf.1 j = σ.1 j := fun j g1 g2 g3 g4 => by rw [hσf]; unfold finC; simp (disch := omega) only [wi_eq, wi_eq', wi_ne, wi_row, wi_2]
  have fi : ∀ i, i ≠ 4 → i ≠ 5 → σf.1 r i = σ.1 r i := fun i g1 g2 => by rw [hσf]; unfold finC; simp (disch := omega) only [wi_eq, wi_eq', wi_ne, wi_row, wi_2]
  have fw : ∀ j w, w ≠ v → j ≠ r → σf.1 j w = σ.1 j w := by
    intro j w hw hj
    by_cases j1 : j = r + 1
    · rw [hσf, j1]; unfold finC; simp (disch := omega) only [wi_eq, wi_eq', wi_ne, wi_row, wi_2]
    · by_cases j4 : j = r + 4
      · rw [hσf, j4]; unfold finC; simp (disch := omega) only [wi_eq, wi_eq', wi_ne, wi_row, wi_2]
      · by_cases j7 : j = r + 7
        · rw [hσf, j7]; unfold finC; simp (disch := omega) only [wi_eq, wi_eq', wi_ne, wi_row, wi_2]
        · rw [fc j hj j1 j4 j7]
  have ft : ∀ i, i ≠ 40 → i ≠ 41 → i ≠ 48 + 8 * v → i ≠ 53 + 8 * v → i ≠ 54 + 8 * v → τf.1 112 i = τ.1 112 i := fun i g1 g2 g3 g4 g5 => by rw [hτf]; unfold finR; simp (disch := omega) only [wi_eq, wi_eq', wi_ne, wi_row, wi_2]
  have fk : ∀ j, j ≠ 112 → τf.1 j = τ.1 j := fun j hj => by rw [hτf]; unfold finR; simp (disch := omega) only [wi_eq, wi_eq', wi_ne, wi_row, wi_2]
  have t0 := hR.2.1.2.2.1
  have t1 := hR.2.1.2.2.2
  have s0 := hR.2.2.1.2.2.1
  have s1 := hR.2.2.1.2.2.2
  refine ⟨σf, τf, z1, z2, ?_, ?_, ⟨⟨?_, ?_⟩, ⟨?_, ?_⟩, ⟨?_, ?_⟩, ?_, ⟨c, c0, c1, ?_, ?_⟩, ⟨t + dl v, -2, ?_, ?_, by omega, by omega, fun _ => by omega, ?_, by omega, by omega, fun q => absurd q (by omega), fun q => absurd q (by omega), fun q => absurd q (by omega)⟩, fun q => absurd q (by omega), n1, Or.inr (Or.inr (Or.inr ⟨rfl, n0, by omega, by omega⟩))⟩, ?_, ?_, ⟨⟨fun j g1 g2 => ?_, fun j g1 g2 w hw => ?_, ?_, ?_⟩, ⟨fk, fun i g1 g2 g3 => ?_, ?_⟩⟩⟩
  · exact QM_congr hM hM.1 (CV_rows hM.2.1 (fun j g1 g2 => fc j (by omega) (by omega) (by omega) (by omega))) (RV_cells hM.2.2.1 hM.1.1 (lv6 hM.1) (by rw [fk 102 (by decide)]) (fk 103 (by decide)) (fk 104 (by decide)) (fun i hi => ft i (by omega) (by omega) (by omega) (by omega) (by omega)))
      (fun i hi => by rw [fc m (by omega) (by omega) (by omega) (by omega)]) (fc _ (by omega) (by omega) (by omega) (by omega)) (fc _ (by omega) (by omega) (by omega) (by omega)) (by rw [fk 102 (by decide)]) (by rw [fk 102 (by decide)]) (fk 103 (by decide)) (ft 35 (by omega) (by omega) (by omega) (by omega) (by omega)) (fun w hw => ft _ (by omega) (by omega) (by omega) (by omega) (by omega))
  · obtain ⟨⟨y0, y0'⟩, ⟨y1, y1', -, -⟩, ⟨y2, y2', -, -⟩, y3, y4, y5, y6⟩ := hR
    refine ⟨⟨by rw [fi 0 (by decide) (by decide)]; exact y0, by rw [ft 36 (by omega) (by omega) (by omega) (by omega) (by omega)]; exact y0'⟩, ⟨by rw [fi 1 (by decide) (by decide)]; exact y1, by rw [ft 37 (by omega) (by omega) (by omega) (by omega) (by omega)]; exact y1', t0, t1⟩, ⟨by rw [fi 2 (by decide) (by decide)]; exact y2, by rw [ft 38 (by omega) (by omega) (by omega) (by omega) (by omega)]; exact y2', s0, s1⟩,
      by rw [fi 3 (by decide) (by decide), ft 39 (by omega) (by omega) (by omega) (by omega) (by omega)]; exact y3, ?_, ?_, by rw [fi 6 (by decide) (by decide), ft 42 (by omega) (by omega) (by omega) (by omega) (by omega)]; exact y6⟩
    · rw [hσf, hτf]
      unfold finC finR
      simp (disch := omega) only [wi_eq, wi_eq', wi_ne, wi_row, wi_2]
      rw [y4]
    · rw [hσf, hτf]
      unfold finC finR
      simp (disch := omega) only [wi_eq, wi_eq', wi_ne, wi_row, wi_2]
      rw [y5, e55]
  · rw [hσf]; unfold finC; simp (disch := omega) only [wi_eq, wi_eq', wi_ne, wi_row, wi_2]
  · rw [hτf]; unfold finR; simp (disch := omega) only [wi_eq, wi_eq', wi_ne, wi_row, wi_2]
  · rw [fc _ (by omega) (by omega) (by omega) (by omega)]; exact b2
  · rw [ft _ (by omega) (by omega) (by omega) (by omega) (by omega)]; exact e49
  · rw [fc _ (by omega) (by omega) (by omega) (by omega)]; exact a1
  · rw [ft _ (by omega) (by omega) (by omega) (by omega) (by omega)]; exact a2
  · rw [fc _ (by omega) (by omega) (by omega) (by omega), ft _ (by omega) (by omega) (by omega) (by omega) (by omega)]; exact e51
  · rw [fc _ (by omega) (by omega) (by omega) (by omega)]; exact b6
  · rw [ft _ (by omega) (by omega) (by omega) (by omega) (by omega)]; exact e52
  · rw [hσf]; unfold finC; simp (disch := omega) only [wi_eq, wi_eq', wi_ne, wi_row, wi_2]
  · rw [hτf]; unfold finR; simp (disch := omega) only [wi_eq, wi_eq', wi_ne, wi_row, wi_2]
  · rw [hτf]; unfold finR; simp (disch := omega) only [wi_eq, wi_eq', wi_ne, wi_row, wi_2]
  · exact LR_congr hL rfl rfl (fun j g1 g2 => fc j (by omega) (by omega) (by omega) (by omega)) (fun i hi => ft i (by omega) (by omega) (by omega) (by omega) (by omega))
  · exact fi 3 (by decide) (by decide)
  · exact fc j (by omega) (by omega) (by omega) (by omega)
  · exact fw j w hw (by omega)
  · exact fun i a b => fi i (by omega) (by omega)
  · rw [hσf]; rfl
  · exact ft i (by omega) (by omega) (by omega) (by omega) (by omega)
  · rw [hτf]; rfl
set_option maxHeartbeats 2000000 in
theorem rest_ok {m r V v : Nat} {d : MD} {σ τ : Wd} {p L W : Int} {dl pl : Nat → Int} {b : Bool} {t s n g c u k : Int} (hm : 10 < m) (hmr : m + 12 < r) (hv : v < V) (hM : QM m σ τ V d p L W dl pl) (hR : QR r σ τ b t s) (hL : LR (r + 9) σ τ V d)
    (h1 : σ.1 (r + 1) v = I 2) (h1' : τ.1 112 (48 + 8 * v) = I 2) (h2 : σ.1 (r + 2) v = I n) (h2' : τ.1 112 (49 + 8 * v) = I n) (h3 : σ.1 (r + 3) v = I g) (h3' : τ.1 112 (50 + 8 * v) = I g) (h4 : τ.1 112 (55 + 8 * v) = σ.1 (r + 4) v) (h5 : τ.1 112 (51 + 8 * v) = σ.1 (r + 5) v)
    (h6 : σ.1 (r + 6) v = I c) (h6' : τ.1 112 (52 + 8 * v) = I c) (c0 : 0 ≤ c) (c1 : c ≤ 999) (h7 : σ.1 (r + 7) v = I u) (h7' : τ.1 112 (53 + 8 * v) = I u) (u0 : t ≤ u) (u1 : u ≤ t + 20) (h8 : σ.1 (r + 8) v = I k) (h8' : τ.1 112 (54 + 8 * v) = I k) (k0 : k = -2 ∨ t ≤ k) (k1 : k ≤ t + 9)
    (g0 : 0 ≤ g) (gn : g ≤ n) (n0 : 1 ≤ n) (n1 : n ≤ 120) (ns : n ≤ s) :
    ∃ (σ' τ' : Wd) (d' : MD) (h' g' : Int) (nb : Int32), f_X4_visit_45 r m (I (v : Int)) σ = some (0, σ') ∧ f_X7_goesAt_64 (I (v : Int)) (I (48 + 8 * (v : Int))) τ = some (nb, τ') ∧ QM m σ' τ' V d' p L W dl pl ∧ QR r σ' τ' b t s ∧ QP r σ' τ' t t v h' n g' ∧ LR (r + 9) σ' τ' V d'
      ∧ (d'.1 = d.1 ∧ d'.lv = d.lv ∧ d'.pr = d.pr) ∧ h' ≠ 0 ∧ σ'.1 r 3 = σ.1 r 3 + nb ∧ VF m r v σ τ σ' τ' := by
  obtain ⟨m1, m2, m3, m4, m5, m6, m7, m8⟩ := hM
  obtain ⟨⟨r0, r0'⟩, ⟨r1, r1', t0, t1⟩, ⟨r2, r2', s0, s1⟩, r3, r4, r5, r6⟩ := hR
  have v5 : v < 5 := Nat.lt_of_lt_of_le hv m1.1
  obtain ⟨D1, D2, D3, D4⟩ := m7 v hv
  obtain ⟨σb, τb, d', pay, x, q1, q2, x0, x1, q3, q4, q5, q6, q7, ⟨a1, a2, a3, a4, a5, a6, a7, a8⟩, ⟨f1, f2, f3, f4⟩, ⟨f5, f6, f7⟩⟩ := buy_ok hm hmr hv m1 m2 m3 hL h2 h3 h6 h2' h3' h6' c0 c1 g0 gn n1
  have rb : ∀ j, r + 1 ≤ j → j ≤ r + 8 → j ≠ r + 3 → j ≠ r + 4 → σb.1 j = σ.1 j := fun j g1 g2 g3 g4 => f3 j (by omega) (by omega) g3 g4 (by omega)
  have VB : VF m r v σ τ σb τb := ⟨⟨fun j g1 g2 => f3 j g1 (by omega) (by omega) (by omega) (by omega), fun j g1 g2 w hw => by
      by_cases e3 : j = r + 3
      · rw [e3]; exact (f2 w hw).1
      · by_cases e4 : j = r + 4
        · rw [e4]; exact (f2 w hw).2
        · rw [rb j g1 g2 e3 e4], fun i a b => f1 i (by omega) (by omega), f4⟩, ⟨f5, fun i g1 g2 g3 => f6 i (by omega) g2 (by omega) (by omega) (by omega) (by omega), f7⟩⟩
  have MB : QM m σb τb V d' p L W dl pl := QM_congr ⟨m1, m2, m3, m4, m5, m6, m7, m8⟩ q3 q4 q5 (fun i hi => by rw [f3 m (by omega) (by omega) (by omega) (by omega) (by omega)]) (f3 _ (by omega) (by omega) (by omega) (by omega) (by omega)) (f3 _ (by omega) (by omega) (by omega) (by omega) (by omega)) (by rw [f5 102 (by decide)]) (by rw [f5 102 (by decide)]) (f5 103 (by decide)) (f6 35 (by omega) (by omega) (by omega) (by omega) (by omega) (by omega)) (fun w hw => f6 _ (by omega) (by omega) (by omega) (by omega) (by omega) (by omega))
  have RB : QR r σb τb b t s := ⟨⟨by rw [f1 0 (by decide) (by decide)]; exact r0, by rw [f6 36 (by omega) (by omega) (by omega) (by omega) (by omega) (by omega)]; exact r0'⟩, ⟨by rw [f1 1 (by decide) (by decide)]; exact r1, by rw [f6 37 (by omega) (by omega) (by omega) (by omega) (by omega) (by omega)]; exact r1', t0, t1⟩, ⟨by rw [f1 2 (by decide) (by decide)]; exact r2, by rw [f6 38 (by omega) (by omega) (by omega) (by omega) (by omega) (by omega)]; exact r2', s0, s1⟩,
    by rw [a3, a4, r3], by rw [a6, a8, r4], by rw [f1 5 (by decide) (by decide), f6 41 (by omega) (by omega) (by omega) (by omega) (by omega) (by omega)]; exact r5, by rw [f1 6 (by decide) (by decide), f6 42 (by omega) (by omega) (by omega) (by omega) (by omega) (by omega)]; exact r6⟩
  have b1 : σb.1 (r + 1) v = I 2 := by rw [rb _ (by omega) (by omega) (by omega) (by omega)]; exact h1
  have b2 : σb.1 (r + 2) v = I n := by rw [rb _ (by omega) (by omega) (by omega) (by omega)]; exact h2
  have b5 : σb.1 (r + 5) v = σ.1 (r + 5) v := by rw [rb _ (by omega) (by omega) (by omega) (by omega)]
  have b6 : σb.1 (r + 6) v = I c := by rw [rb _ (by omega) (by omega) (by omega) (by omega)]; exact h6
  have b7 : σb.1 (r + 7) v = I u := by rw [rb _ (by omega) (by omega) (by omega) (by omega)]; exact h7
  have b8 : σb.1 (r + 8) v = I k := by rw [rb _ (by omega) (by omega) (by omega) (by omega)]; exact h8
  have e48 : τb.1 112 (48 + 8 * v) = I 2 := by rw [f6 _ (by omega) (by omega) (by omega) (by omega) (by omega) (by omega)]; exact h1'
  have e49 : τb.1 112 (49 + 8 * v) = I n := by rw [f6 _ (by omega) (by omega) (by omega) (by omega) (by omega) (by omega)]; exact h2'
  have e51 : τb.1 112 (51 + 8 * v) = σb.1 (r + 5) v := by rw [f6 _ (by omega) (by omega) (by omega) (by omega) (by omega) (by omega), b5]; exact h5
  have e52 : τb.1 112 (52 + 8 * v) = I c := by rw [f6 _ (by omega) (by omega) (by omega) (by omega) (by omega) (by omega)]; exact h6'
  have e53 : τb.1 112 (53 + 8 * v) = I u := by rw [f6 _ (by omega) (by omega) (by omega) (by omega) (by omega) (by omega)]; exact h7'
  have e54 : τb.1 112 (54 + 8 * v) = I k := by rw [f6 _ (by omega) (by omega) (by omega) (by omega) (by omega) (by omega)]; exact h8'
  have e55 : τb.1 112 (55 + 8 * v) = σb.1 (r + 4) v := by rw [a7, a5, h4]
  have st := RB.2.1.1
  have tt := RB.2.1.2.1
  by_cases cs : g + x ≠ n ∧ k ≠ t ∧ t < u
  · obtain ⟨cs1, cs2, cs3⟩ := cs
    refine ⟨σb, τb, d', 2, g + x, I x, ?_, ?_, MB, RB, ⟨⟨b1, e48⟩, ⟨b2, e49⟩, ⟨a1, a2⟩, e51, ⟨c, c0, c1, b6, e52⟩, ⟨u, k, b7, e53, by omega, u1, fun _ => cs3, e54, by omega, k1, fun _ => ⟨b8, by omega⟩, fun q => absurd q (by decide), fun q => absurd q (by decide)⟩, fun _ => e55, n1, Or.inr (Or.inr (Or.inl ⟨rfl, n0, by omega, by omega⟩))⟩, q6, q7, by decide, a3, VB⟩
    · rw [v_buy v5 h1 q1 a1 b2 b8 st b7 (by omega) (by omega) n1 (by omega) (by omega) t0 (by omega) u0 (by omega), if_pos ⟨cs1, cs2, cs3⟩]
    · rw [g_buy v5 h1' q2 a2 e49 e54 tt e53 (by omega) (by omega) n1 (by omega) (by omega) t0 (by omega) u0 (by omega), if_pos ⟨cs1, cs2, cs3⟩]
  · obtain ⟨σf, τf, z1, z2, z3, z4, z5, z6, z7, z8⟩ := fin_all (g := g + x) (c := c) hm hmr hv MB RB q6 b2 e49 a1 a2 e51 b6 e52 c0 c1 e55 (by omega) (by omega) n0 n1
    refine ⟨σf, τf, d', 3, g + x, I x, ?_, ?_, z3, z4, z5, z6, q7, by decide, by rw [z7]; exact a3, VF_trans VB z8⟩
    · rw [v_buy v5 h1 q1 a1 b2 b8 st b7 (by omega) (by omega) n1 (by omega) (by omega) t0 (by omega) u0 (by omega), if_neg cs]
      unfold f_X4_visit_102 f_X4_visit_154
      rw [z1]
      rfl
    · rw [g_buy v5 h1' q2 a2 e49 e54 tt e53 (by omega) (by omega) n1 (by omega) (by omega) t0 (by omega) u0 (by omega), if_neg cs]
      unfold f_X7_goesAt_138 f_X7_goesAt_143
      rw [z2]
      rfl
set_option maxHeartbeats 4000000 in
theorem answ_ok {m r V v : Nat} {d : MD} {σ τ : Wd} {p L W : Int} {dl pl : Nat → Int} {b : Bool} {t s n g : Int} (hm : 10 < m) (hmr : m + 12 < r) (hv : v < V) (hM : QM m σ τ V d p L W dl pl) (hR : QR r σ τ b t s) (hL : LR (r + 9) σ τ V d)
    (h1 : σ.1 (r + 1) v = I 3) (h1' : τ.1 112 (48 + 8 * v) = I 3) (h3 : σ.1 (r + 3) v = I g) (h3' : τ.1 112 (50 + 8 * v) = I g) (h7 : σ.1 (r + 7) v = I t) (h7' : τ.1 112 (53 + 8 * v) = I t) (g0 : 0 ≤ g) (gn : g ≤ n) (ns : n ≤ s) :
    ∃ (σ' τ' : Wd), f_X4_visit r m (I (v : Int)) σ = some (0, σ') ∧ f_X7_goesAt (I (v : Int)) τ = some (I 0, τ') ∧ QM m σ' τ' V d p L W dl pl ∧ QR r σ' τ' b t (s - g) ∧ QP r σ' τ' t t v 0 0 0 ∧ LR (r + 9) σ' τ' V d ∧ σ'.1 r 3 = σ.1 r 3 ∧ VF m r v σ τ σ' τ' := by
  obtain ⟨m1, m2, m3, m4, m5, m6, m7, m8⟩ := hM
  obtain ⟨⟨r0, r0'⟩, ⟨r1, r1', t0, t1⟩, ⟨r2, r2', s0, s1⟩, r3, r4, r5, r6⟩ := hR
  have v5 : v < 5 := Nat.lt_of_lt_of_le hv m1.1
  obtain ⟨τ', q1, q2, q3, q4, q5, q6, q7⟩ := rClr (τ := wi τ 112 38 (I (s - g))) v5
  obtain ⟨σ', hσ⟩ : ∃ s', s' = dropW r v (wi σ r 2 (I (s - g))) := ⟨_, rfl⟩
  obtain ⟨z1, z2, z3, z4, z5, z6, z7, z8⟩ := drop_at (r := r) (v := v) (σ := wi σ r 2 (I (s - g)))
  rw [← hσ] at z1 z2 z3 z4 z5 z6 z7 z8
  have fc : ∀ j, j ≠ r → j < r + 1 ∨ r + 8 < j → σ'.1 j = σ.1 j := fun j g1 g2 => by rw [hσ, drop_row g2, wi_row g1]
  have fi : ∀ i, i ≠ 2 → σ'.1 r i = σ.1 r i := fun i g1 => by rw [hσ, drop_row (by omega), wi_ne g1]
  have ft : ∀ i, i ≠ 38 → i < 48 + 8 * v ∨ 56 + 8 * v ≤ i → τ'.1 112 i = τ.1 112 i := fun i g1 g2 => by rw [q5 i g2, wi_ne g1]
  have fk : ∀ j, j ≠ 112 → τ'.1 j = τ.1 j := fun j hj => by rw [q6 j hj, wi_row hj]
  have ce : ∀ i, i < 8 → i ≠ 5 → i ≠ 6 → τ'.1 112 (48 + i + 8 * v) = I 0 := fun i g1 g2 g3 => by rw [show 48 + i + 8 * v = 48 + 8 * v + i from by omega]; exact q2 i g1 g2 g3
  refine ⟨σ', τ', ?_, ?_, QM_congr ⟨m1, m2, m3, m4, m5, m6, m7, m8⟩ m1 (CV_rows m2 (fun j g1 g2 => fc j (by omega) (by omega))) (RV_cells m3 m1.1 (lv6 m1) (by rw [fk 102 (by decide)]) (fk 103 (by decide)) (fk 104 (by decide)) (fun i hi => ft i (by omega) (by omega)))
      (fun i hi => by rw [fc m (by omega) (by omega)]) (fc _ (by omega) (by omega)) (fc _ (by omega) (by omega)) (by rw [fk 102 (by decide)]) (by rw [fk 102 (by decide)]) (fk 103 (by decide)) (ft 35 (by omega) (by omega)) (fun w hw => ft _ (by omega) (by omega)),
    ⟨⟨by rw [fi 0 (by decide)]; exact r0, by rw [ft 36 (by omega) (by omega)]; exact r0'⟩, ⟨by rw [fi 1 (by decide)]; exact r1, by rw [ft 37 (by omega) (by omega)]; exact r1', t0, t1⟩, ⟨by rw [hσ, drop_row (by omega), wi_eq], by rw [q5 38 (by omega), wi_eq], by omega, by omega⟩, by rw [fi 3 (by decide), ft 39 (by omega) (by omega)]; exact r3, by rw [fi 4 (by decide), ft 40 (by omega) (by omega)]; exact r4, by rw [fi 5 (by decide), ft 41 (by omega) (by omega)]; exact r5, by rw [fi 6 (by decide), ft 42 (by omega) (by omega)]; exact r6⟩,
    ⟨⟨z1, ce 0 (by decide) (by decide) (by decide)⟩, ⟨z2, ce 1 (by decide) (by decide) (by decide)⟩, ⟨z3, ce 2 (by decide) (by decide) (by decide)⟩, by rw [z5]; exact ce 3 (by decide) (by decide) (by decide), ⟨0, by omega, by omega, z6, ce 4 (by decide) (by decide) (by decide)⟩, ⟨-2, -2, z7, by rw [show 53 + 8 * v = 48 + 8 * v + 5 from by omega]; exact q3, by omega, by omega, fun q => absurd rfl q, by rw [show 54 + 8 * v = 48 + 8 * v + 6 from by omega]; exact q4, by omega, by omega, fun q => absurd q (by omega), fun q => absurd q (by omega), fun _ => ⟨z8, rfl⟩⟩, fun q => absurd q (by omega), by omega, Or.inl ⟨rfl, rfl, rfl⟩⟩,
    LR_congr hL rfl rfl (fun j g1 g2 => fc j (by omega) (by omega)) (fun i hi => ft i (by omega) (by omega)), fi 3 (by decide), ⟨⟨fun j g1 g2 => fc j (by omega) (by omega), fun j g1 g2 w hw => ?_, fun i a b => fi i (by omega), by rw [hσ]; rfl⟩, ⟨fk, fun i g1 g2 g3 => ft i (by omega) (by omega), by rw [q7, wi_2]⟩⟩⟩
  · rw [hσ]
    exact v_answ v5 h1 r1 h7 t0 (by omega) r2 h3
  · exact g_answ v5 h1' r1' h7' r2' h3' q1
  · rw [hσ, drop_ne hw, wi_row (by omega)]
set_option maxHeartbeats 8000000 in
theorem visit_ok {m r V v : Nat} {d : MD} {σ τ : Wd} {p L W : Int} {dl pl : Nat → Int} {b : Bool} {t s h n g : Int} (hm : 10 < m) (hmr : m + 12 < r) (hv : v < V) (hM : QM m σ τ V d p L W dl pl) (hR : QR r σ τ b t s) (hL : LR (r + 9) σ τ V d) (hP : QP r σ τ (t - 1) t v h n g) (ns : n ≤ s) :
    ∃ (σ' τ' : Wd) (d' : MD) (s' h' n' g' : Int) (nb : Int32), f_X4_visit r m (I (v : Int)) σ = some (0, σ') ∧ f_X7_goesAt (I (v : Int)) τ = some (nb, τ') ∧ QM m σ' τ' V d' p L W dl pl ∧ QR r σ' τ' b t s' ∧ QP r σ' τ' t t v h' n' g' ∧ LR (r + 9) σ' τ' V d'
      ∧ (d'.1 = d.1 ∧ d'.lv = d.lv ∧ d'.pr = d.pr) ∧ (0 ≤ n' ∧ s - n ≤ s' - n') ∧ (h = 0 → h' = 0 ∧ s' = s) ∧ σ'.1 r 3 = σ.1 r 3 + nb ∧ VF m r v σ τ σ' τ' := by
  obtain ⟨⟨h1, h1'⟩, ⟨h2, h2'⟩, ⟨h3, h3'⟩, h5, ⟨c, c0, c1, h6, h6'⟩, ⟨u, k, h7, h7', u0, u1, u2, h8', k0, k1, k2, k3, k4⟩, h4, n1, hcs⟩ := hP
  have hM' := hM
  have hR' := hR
  obtain ⟨m1, m2, m3, m4, ⟨m5, m5', L0, L1, L2⟩, m6, m7, m8⟩ := hM'
  obtain ⟨⟨r0, r0'⟩, ⟨r1, r1', t0, t1⟩, ⟨r2, r2', s0, s1⟩, r3, r4, r5, r6⟩ := hR'
  have v5 : v < 5 := Nat.lt_of_lt_of_le hv m1.1
  have L3 := L2 (by omega)
  rcases hcs with ⟨e, en, eg⟩ | ⟨e, n0, eg⟩ | ⟨e, n0, g0, g1⟩ | ⟨e, n0, g0, g1⟩
  · -- no part
    subst e
    refine ⟨σ, τ, d, s, 0, n, g, I 0, ?_, ?_, hM, hR, ⟨⟨h1, h1'⟩, ⟨h2, h2'⟩, ⟨h3, h3'⟩, h5, ⟨c, c0, c1, h6, h6'⟩, ⟨u, k, h7, h7', u0, u1, fun q => absurd rfl q, h8', k0, k1, fun q => absurd q (by omega), fun q => absurd q (by omega), k4⟩, h4, n1, Or.inl ⟨rfl, en, eg⟩⟩, hL, ⟨rfl, rfl, rfl⟩, ⟨by omega, by omega⟩, fun _ => ⟨rfl, rfl⟩, (addI0 _).symm, VF_refl⟩
    · exact v_skip v5 h1 rfl
    · exact g_skip v5 h1' rfl
  · -- coming
    subst e
    have u3 := u2 (by decide)
    obtain ⟨h8, k5⟩ := k2 (Or.inl rfl)
    have k6 := (k3 rfl).1
    by_cases cu : u = t
    · obtain ⟨σ1, hσ1⟩ : ∃ s, s = wi (wi σ (r + 1) v (I 2)) (r + 7) v (I (t + L)) := ⟨_, rfl⟩
      obtain ⟨τ1, hτ1⟩ : ∃ s, s = wi (wi τ 112 (48 + 8 * v) (I 2)) 112 (53 + 8 * v) (I (t + L)) := ⟨_, rfl⟩
      have fc : ∀ j, j ≠ r + 1 → j ≠ r + 7 → σ1.1 j = σ.1 j := fun j g1 g2 => by rw [hσ1]; simp (disch := omega) only [wi_eq, wi_eq', wi_ne, wi_row, wi_2]
      have ft : ∀ i, i ≠ 48 + 8 * v → i ≠ 53 + 8 * v → τ1.1 112 i = τ.1 112 i := fun i g1 g2 => by rw [hτ1]; simp (disch := omega) only [wi_eq, wi_eq', wi_ne, wi_row, wi_2]
      have fk : ∀ j, j ≠ 112 → τ1.1 j = τ.1 j := fun j hj => by rw [hτ1]; simp (disch := omega) only [wi_eq, wi_eq', wi_ne, wi_row, wi_2]
      have V1 : VF m r v σ τ σ1 τ1 := ⟨⟨fun j g1 g2 => fc j (by omega) (by omega), fun j g1 g2 w hw => by
          by_cases j1 : j = r + 1
          · rw [hσ1, j1]; simp (disch := omega) only [wi_eq, wi_eq', wi_ne, wi_row, wi_2]
          · by_cases j7 : j = r + 7
            · rw [hσ1, j7]; simp (disch := omega) only [wi_eq, wi_eq', wi_ne, wi_row, wi_2]
            · rw [fc j j1 j7], fun i _ _ => by rw [fc r (by omega) (by omega)], by rw [hσ1]; rfl⟩, ⟨fk, fun i g1 g2 g3 => ft i (by omega) (by omega), by rw [hτ1]; rfl⟩⟩
      have M1 : QM m σ1 τ1 V d p L W dl pl := QM_congr hM m1 (CV_rows m2 (fun j g1 g2 => fc j (by omega) (by omega))) (RV_cells m3 m1.1 (lv6 m1) (by rw [fk 102 (by decide)]) (fk 103 (by decide)) (fk 104 (by decide)) (fun i hi => ft i (by omega) (by omega)))
        (fun i hi => by rw [fc m (by omega) (by omega)]) (fc _ (by omega) (by omega)) (fc _ (by omega) (by omega)) (by rw [fk 102 (by decide)]) (by rw [fk 102 (by decide)]) (fk 103 (by decide)) (ft 35 (by omega) (by omega)) (fun w hw => ft _ (by omega) (by omega))
      have R1 : QR r σ1 τ1 b t s := by
        unfold QR
        rw [fc r (by omega) (by omega), ft 36 (by omega) (by omega), ft 37 (by omega) (by omega), ft 38 (by omega) (by omega), ft 39 (by omega) (by omega), ft 40 (by omega) (by omega), ft 41 (by omega) (by omega), ft 42 (by omega) (by omega)]
        exact hR
      obtain ⟨σ', τ', d', h', g', nb, q1, q2, q3, q4, q5, q6, q7, q8, q9, q10⟩ := rest_ok (c := c) (u := t + L) (k := k) hm hmr hv M1 R1 (LR_congr hL rfl rfl (fun j g1 g2 => fc j (by omega) (by omega)) (fun i hi => ft i (by omega) (by omega)))
        (by rw [hσ1]; simp (disch := omega) only [wi_eq, wi_eq', wi_ne, wi_row, wi_2]) (by rw [hτ1]; simp (disch := omega) only [wi_eq, wi_eq', wi_ne, wi_row, wi_2]) (by rw [fc _ (by omega) (by omega)]; exact h2) (by rw [ft _ (by omega) (by omega)]; exact h2') (by rw [fc _ (by omega) (by omega)]; exact h3) (by rw [ft _ (by omega) (by omega)]; exact h3') (by rw [fc _ (by omega) (by omega), ft _ (by omega) (by omega)]; exact h4 (Or.inl rfl)) (by rw [fc _ (by omega) (by omega), ft _ (by omega) (by omega)]; exact h5)
        (by rw [fc _ (by omega) (by omega)]; exact h6) (by rw [ft _ (by omega) (by omega)]; exact h6') c0 c1 (by rw [hσ1]; simp (disch := omega) only [wi_eq, wi_eq', wi_ne, wi_row, wi_2]) (by rw [hτ1]; simp (disch := omega) only [wi_eq, wi_eq', wi_ne, wi_row, wi_2]) (by omega) (by omega) (by rw [fc _ (by omega) (by omega)]; exact h8) (by rw [ft _ (by omega) (by omega)]; exact h8') (by omega) k1 (by omega) (by omega) n0 n1 ns
      refine ⟨σ', τ', d', s, h', n, g', nb, ?_, ?_, q3, q4, q5, q6, q7, ⟨by omega, by omega⟩, fun q => absurd q (by decide), by rw [q9, fc r (by omega) (by omega)], VF_trans V1 q10⟩
      · rw [← q1, hσ1]
        exact v_come v5 hmr h1 r1 (by rw [← cu]; exact h7) t0 (by omega) m5
      · rw [← q2, hτ1]
        exact g_come v5 h1' r1' (by rw [← cu]; exact h7') m5'
    · refine ⟨σ, τ, d, s, 1, n, g, I 0, ?_, ?_, hM, hR, ⟨⟨h1, h1'⟩, ⟨h2, h2'⟩, ⟨h3, h3'⟩, h5, ⟨c, c0, c1, h6, h6'⟩, ⟨u, k, h7, h7', u0, u1, fun _ => by omega, h8', k0, k1, fun _ => ⟨h8, by omega⟩, k3, fun q => absurd q (by decide)⟩, h4, n1, Or.inr (Or.inl ⟨rfl, n0, eg⟩)⟩, hL, ⟨rfl, rfl, rfl⟩, ⟨by omega, by omega⟩, fun q => absurd q (by decide), (addI0 _).symm, VF_refl⟩
      · exact v_wait v5 h1 (by omega) r1 h7 t0 (by omega) (by omega)
      · exact g_wait v5 h1' (by omega) r1' h7' t0 (by omega) (by omega)
  · -- resting
    subst e
    have u3 := u2 (by decide)
    obtain ⟨h8, k5⟩ := k2 (Or.inr rfl)
    obtain ⟨σ', τ', d', h', g', nb, q1, q2, q3, q4, q5, q6, q7, q8, q9, q10⟩ := rest_ok (c := c) (u := u) (k := k) hm hmr hv hM hR hL h1 h1' h2 h2' h3 h3' (h4 (Or.inr rfl)) h5 h6 h6' c0 c1 h7 h7' (by omega) u1 h8 h8' (by omega) k1 g0 (by omega) n0 n1 ns
    refine ⟨σ', τ', d', s, h', n, g', nb, ?_, ?_, q3, q4, q5, q6, q7, ⟨by omega, by omega⟩, fun q => absurd q (by decide), q9, q10⟩
    · rw [← q1]
      exact v_rest v5 h1
    · rw [← q2]
      exact g_rest v5 h1'
  · -- answering
    subst e
    have u3 := u2 (by decide)
    by_cases cu : u = t
    · subst cu
      obtain ⟨σ', τ', q1, q2, q3, q4, q5, q6, q7, q8⟩ := answ_ok hm hmr hv hM hR hL h1 h1' h3 h3' h7 h7' g0 g1 ns
      exact ⟨σ', τ', d, s - g, 0, 0, 0, I 0, q1, q2, q3, q4, q5, q6, ⟨rfl, rfl, rfl⟩, ⟨by omega, by omega⟩, fun q => absurd q (by decide), by rw [q7, addI0], q8⟩
    · refine ⟨σ, τ, d, s, 3, n, g, I 0, ?_, ?_, hM, hR, ⟨⟨h1, h1'⟩, ⟨h2, h2'⟩, ⟨h3, h3'⟩, h5, ⟨c, c0, c1, h6, h6'⟩, ⟨u, k, h7, h7', u0, u1, fun _ => by omega, h8', k0, k1, fun q => absurd q (by omega), fun q => absurd q (by decide), fun q => absurd q (by decide)⟩, h4, n1, Or.inr (Or.inr (Or.inr ⟨rfl, n0, g0, g1⟩))⟩, hL, ⟨rfl, rfl, rfl⟩, ⟨by omega, by omega⟩, fun q => absurd q (by decide), (addI0 _).symm, VF_refl⟩
      · exact v_wait v5 h1 (by omega) r1 h7 t0 (by omega) (by omega)
      · exact g_wait v5 h1' (by omega) r1' h7' t0 (by omega) (by omega)
end
section
/-! PURE: a part is sent -/
def sendC (r v : Nat) (n hp c u : Int32) (σ : Wd) : Wd := wi (wi (wi (wi (wi (dropW r v σ) (r + 1) v (I 1)) (r + 2) v n) (r + 5) v hp) (r + 6) v c) (r + 7) v u
theorem cSend {m r V v : Nat} {d : MD} {σ : Wd} {n t D : Int} (hmr : m + 12 < r) (hv : v < V) (hd : MDok d V) (hc : CV m σ V d) (st : σ.1 r 1 = I t) (sd : σ.1 (m + 5) v = I D) (n0 : 0 ≤ n) (n1 : n ≤ 120) :
    f_X4_send r m (I (v : Int)) (I n) σ = some (0, sendC r v (I n) (I (cst d v n)) (I (cap d v n)) (I (t + D)) σ) := by
  have v5 : v < 5 := Nat.lt_of_lt_of_le hv hd.1
  have k0 : CV m (dropW r v σ) V d := CV_rows hc (fun j g1 g2 => drop_row (by omega))
  have k1 : CV m (wi (wi (dropW r v σ) (r + 1) v (I 1)) (r + 2) v (I n)) V d := CV_rows k0 (fun j g1 g2 => by simp (disch := omega) only [wi_eq, wi_eq', wi_ne, wi_row, wi_2])
  have k2 : CV m (wi (wi (wi (dropW r v σ) (r + 1) v (I 1)) (r + 2) v (I n)) (r + 5) v (I (cst d v n))) V d := CV_rows k1 (fun j g1 g2 => by simp (disch := omega) only [wi_eq, wi_eq', wi_ne, wi_row, wi_2])
  have e1 : (dropW r v σ).1 r 1 = I t := by rw [drop_row (by omega)]; exact st
  have e2 : (dropW r v σ).1 (m + 5) v = I D := by rw [drop_row (by omega)]; exact sd
  unfold f_X4_send sendC
  simp (disch := omega) only [↓reduceIte, gd_t, bd_s, nm_W, nm_I, I_add, I_sub, I_mul, I_neg, I_le_t, I_le_f, I_lt_t, I_lt_f, I_eq_t, I_eq_f, I_inb', I_ix', Int.toNat_natCast, decide_true, decide_false, Bool.not_false, Bool.not_true, if_true, if_false, wi_eq, wi_eq', wi_ne, wi_row, wi_2, N0, N1, N2, N3, N4, N5, N6, N7, N8, N9, N10, N11, N12, N13, N14, N15, N16, N17, N18, N19, N20, N21, N22, N23, N24, N25, N26, N27, N28, N29, N30, N31, N32, N33, N34, N35, N36, N37, N38, N39, N40, N41, N42, N43, N45, N48, N57, N59, N88, N89, N97, N99, N120, N121, N122, N179, N200, N255, N300, N400, N880, N900, N999, N1019, N50000000, N100000000, N1000000000, N2147483647, N2147483648, cDrop v5, cCost k1 hd hv (n := n) (by omega) (by omega), cCap k2 hd hv n0 (by omega), e1, e2]
theorem send_at {r v : Nat} {n hp c u : Int32} {σ : Wd} : (sendC r v n hp c u σ).1 (r + 1) v = I 1 ∧ (sendC r v n hp c u σ).1 (r + 2) v = n ∧ (sendC r v n hp c u σ).1 (r + 3) v = I 0 ∧ (sendC r v n hp c u σ).1 (r + 4) v = I 0 ∧ (sendC r v n hp c u σ).1 (r + 5) v = hp ∧ (sendC r v n hp c u σ).1 (r + 6) v = c ∧ (sendC r v n hp c u σ).1 (r + 7) v = u ∧ (sendC r v n hp c u σ).1 (r + 8) v = I (-2) := by
  obtain ⟨z1, z2, z3, z4, z5, z6, z7, z8⟩ := drop_at (r := r) (v := v) (σ := σ)
  unfold sendC
  refine ⟨?_, ?_, ?_, ?_, ?_, ?_, ?_, ?_⟩
  · simp (disch := omega) only [wi_eq, wi_eq', wi_ne, wi_row, wi_2]
  · simp (disch := omega) only [wi_eq, wi_eq', wi_ne, wi_row, wi_2]
  · simp (disch := omega) only [wi_eq, wi_eq', wi_ne, wi_row, wi_2]
    exact z3
  · simp (disch := omega) only [wi_eq, wi_eq', wi_ne, wi_row, wi_2]
    exact z4
  · simp (disch := omega) only [wi_eq, wi_eq', wi_ne, wi_row, wi_2]
  · simp (disch := omega) only [wi_eq, wi_eq', wi_ne, wi_row, wi_2]
  · simp (disch := omega) only [wi_eq, wi_eq', wi_ne, wi_row, wi_2]
  · simp (disch := omega) only [wi_eq, wi_eq', wi_ne, wi_row, wi_2]
    exact z8
theorem send_row {r v k : Nat} {n hp c u : Int32} {σ : Wd} (h : k < r + 1 ∨ r + 8 < k) : (sendC r v n hp c u σ).1 k = σ.1 k := by
  unfold sendC
  rw [wi_row (by omega), wi_row (by omega), wi_row (by omega), wi_row (by omega), wi_row (by omega), drop_row h]
theorem send_ne {r v w k : Nat} {n hp c u : Int32} {σ : Wd} (h : w ≠ v) : (sendC r v n hp c u σ).1 k w = σ.1 k w := by
  have key : ∀ (σ : Wd) (a : Nat) (x : Int32), (wi σ a v x).1 k w = σ.1 k w := by
    intro σ a x
    by_cases c : k = a
    · rw [c, wi_ne h]
    · rw [wi_row c]
  unfold sendC
  rw [key, key, key, key, key, drop_ne h]
theorem rSend {V v : Nat} {d : MD} {τ : Wd} {n t D : Int} (hv : v < V) (hd : MDok d V) (hr : RV τ V d) (tt : τ.1 112 37 = I t) (td : τ.1 103 (5 * v + 3) = I D) (n0 : 0 ≤ n) (n1 : n ≤ 120) :
    ∃ τ', f_X7_sends (I (v : Int)) (I n) τ = some (0, τ') ∧ (τ'.1 112 (48 + 8 * v) = I 1 ∧ τ'.1 112 (49 + 8 * v) = I n ∧ τ'.1 112 (50 + 8 * v) = I 0 ∧ τ'.1 112 (51 + 8 * v) = I (cst d v n) ∧ τ'.1 112 (52 + 8 * v) = I (cap d v n) ∧ τ'.1 112 (53 + 8 * v) = I (t + D) ∧ τ'.1 112 (54 + 8 * v) = I (-2) ∧ τ'.1 112 (55 + 8 * v) = I 0)
      ∧ (∀ i, i < 48 + 8 * v ∨ 56 + 8 * v ≤ i → τ'.1 112 i = τ.1 112 i) ∧ (∀ k, k ≠ 112 → τ'.1 k = τ.1 k) ∧ τ'.2 = τ.2 := by
  have v5 : v < 5 := Nat.lt_of_lt_of_le hv hd.1
  obtain ⟨τ0, q1, q2, q3, q4, q5, q6, q7⟩ := rClr (τ := τ) v5
  have w0 : ((48 : Int) + 8 * (v : Int) + 0).toNat = 48 + 8 * v := by omega
  have w1 : ((48 : Int) + 8 * (v : Int) + 1).toNat = 49 + 8 * v := by omega
  have w3 : ((48 : Int) + 8 * (v : Int) + 3).toNat = 51 + 8 * v := by omega
  have w4 : ((48 : Int) + 8 * (v : Int) + 4).toNat = 52 + 8 * v := by omega
  have w5 : ((48 : Int) + 8 * (v : Int) + 5).toNat = 53 + 8 * v := by omega
  have w37 : Int.toNat 37 = 37 := rfl
  have told : ∀ τ' : Wd, f_X7_told (I (v : Int)) (I 3) τ' = some (τ'.1 103 (5 * v + 3), τ') := fun τ' => told7 (σ := τ') 3 v5 (by decide)
  have h0 : RV τ0 V d := RV_cells hr hd.1 (lv6 hd) (by rw [q6 102 (by decide)]) (q6 103 (by decide)) (q6 104 (by decide)) (fun i hi => q5 i (by omega))
  have hx : ∀ τ1 j x, RV τ1 V d → 35 ≤ j → RV (wi τ1 112 j x) V d := fun τ1 j x g1 g2 => RV_wi g1 hd.1 (lv6 hd) g2
  have h2 := hx _ (49 + 8 * v) (I n) (hx _ (48 + 8 * v) (I 1) h0 (by omega)) (by omega)
  have h3 := hx _ (51 + 8 * v) (I (cst d v n)) h2 (by omega)
  have e37 : τ0.1 112 37 = I t := by rw [q5 37 (by omega)]; exact tt
  have e103 : τ0.1 103 (5 * v + 3) = I D := by rw [q6 103 (by decide)]; exact td
  refine ⟨wi (wi (wi (wi (wi τ0 112 (48 + 8 * v) (I 1)) 112 (49 + 8 * v) (I n)) 112 (51 + 8 * v) (I (cst d v n))) 112 (52 + 8 * v) (I (cap d v n))) 112 (53 + 8 * v) (I (t + D)), ?_, ⟨?_, ?_, ?_, ?_, ?_, ?_, ?_, ?_⟩, fun i hi => ?_, fun k hk => ?_, ?_⟩
  · unfold f_X7_sends f_X7_partAt
    simp (disch := omega) only [↓reduceIte, gd_t, bd_s, nm_W, nm_I, I_add, I_sub, I_mul, I_neg, I_le_t, I_le_f, I_lt_t, I_lt_f, I_eq_t, I_eq_f, I_inb', I_ix', Int.toNat_natCast, decide_true, decide_false, Bool.not_false, Bool.not_true, if_true, if_false, wi_eq, wi_eq', wi_ne, wi_row, wi_2, N0, N1, N2, N3, N4, N5, N6, N7, N8, N9, N10, N11, N12, N13, N14, N15, N16, N17, N18, N19, N20, N21, N22, N23, N24, N25, N26, N27, N28, N29, N30, N31, N32, N33, N34, N35, N36, N37, N38, N39, N40, N41, N42, N43, N45, N48, N57, N59, N88, N89, N97, N99, N120, N121, N122, N179, N200, N255, N300, N400, N880, N900, N999, N1019, N50000000, N100000000, N1000000000, N2147483647, N2147483648, q1, w0, w1, rCost h2 hd hv (n := n) n0 (by omega), w3, rCap h3 hd hv n0 (by omega), w4, told, w5, w37, e37, e103]
  · simp (disch := omega) only [wi_eq, wi_eq', wi_ne, wi_row, wi_2]
  · simp (disch := omega) only [wi_eq, wi_eq', wi_ne, wi_row, wi_2]
  · simp (disch := omega) only [wi_eq, wi_eq', wi_ne, wi_row, wi_2]
    rw [show 50 + 8 * v = 48 + 8 * v + 2 from by omega]
    exact q2 2 (by decide) (by decide) (by decide)
  · simp (disch := omega) only [wi_eq, wi_eq', wi_ne, wi_row, wi_2]
  · simp (disch := omega) only [wi_eq, wi_eq', wi_ne, wi_row, wi_2]
  · simp (disch := omega) only [wi_eq, wi_eq', wi_ne, wi_row, wi_2]
  · simp (disch := omega) only [wi_eq, wi_eq', wi_ne, wi_row, wi_2]
    rw [show 54 + 8 * v = 48 + 8 * v + 6 from by omega]
    exact q4
  · simp (disch := omega) only [wi_eq, wi_eq', wi_ne, wi_row, wi_2]
    rw [show 55 + 8 * v = 48 + 8 * v + 7 from by omega]
    exact q2 7 (by decide) (by decide) (by decide)
  · simp (disch := omega) only [wi_eq, wi_eq', wi_ne, wi_row, wi_2]
    exact q5 i hi
  · simp (disch := omega) only [wi_eq, wi_eq', wi_ne, wi_row, wi_2]
    exact q6 k hk
  · simp (disch := omega) only [wi_eq, wi_eq', wi_ne, wi_row, wi_2]
    exact q7
set_option maxHeartbeats 1000000 in
theorem send_ok {m r V v : Nat} {d : MD} {σ τ : Wd} {p L W : Int} {dl pl : Nat → Int} {b : Bool} {t s n : Int} (hm : 10 < m) (hmr : m + 12 < r) (hv : v < V) (hM : QM m σ τ V d p L W dl pl) (hR : QR r σ τ b t s) (hL : LR (r + 9) σ τ V d) (n0 : 1 ≤ n) (n1 : n ≤ 120) :
    ∃ (σ' τ' : Wd), f_X4_send r m (I (v : Int)) (I n) σ = some (0, σ') ∧ f_X7_sends (I (v : Int)) (I n) τ = some (0, τ') ∧ QM m σ' τ' V d p L W dl pl ∧ QR r σ' τ' b t s ∧ QP r σ' τ' t t v 1 n 0 ∧ LR (r + 9) σ' τ' V d ∧ σ'.1 r = σ.1 r ∧ (∀ k, k < r + 1 ∨ r + 8 < k → σ'.1 k = σ.1 k) ∧ VF m r v σ τ σ' τ' := by
  obtain ⟨D1, D2, D3, D4⟩ := hM.2.2.2.2.2.2.1 v hv
  have t0 := hR.2.1.2.2.1
  have cb := cap_b (n := n) hM.1 hv
  have v5 : v < 5 := Nat.lt_of_lt_of_le hv hM.1.1
  obtain ⟨τ', q1, ⟨a0, a1, a2, a3, a4, a5, a6, a7⟩, q2, q3, q4⟩ := rSend (n := n) hv hM.1 hM.2.2.1 hR.2.1.2.1 D2 (by omega) n1
  have e := cSend (n := n) hmr hv hM.1 hM.2.1 hR.2.1.1 D1 (by omega) n1
  obtain ⟨σ', hσ⟩ : ∃ s, s = sendC r v (I n) (I (cst d v n)) (I (cap d v n)) (I (t + dl v)) σ := ⟨_, rfl⟩
  obtain ⟨z1, z2, z3, z4, z5, z6, z7, z8⟩ := send_at (r := r) (v := v) (n := I n) (hp := I (cst d v n)) (c := I (cap d v n)) (u := I (t + dl v)) (σ := σ)
  rw [← hσ] at e z1 z2 z3 z4 z5 z6 z7 z8
  have fc : ∀ k, k < r + 1 ∨ r + 8 < k → σ'.1 k = σ.1 k := fun k hk => by rw [hσ]; exact send_row hk
  refine ⟨σ', τ', e, q1, ?_, ?_, ⟨⟨z1, a0⟩, ⟨z2, a1⟩, ⟨z3, a2⟩, by rw [a3, z5], ⟨cap d v n, cb.1, cb.2, z6, a4⟩, ⟨t + dl v, -2, z7, a5, by omega, by omega, fun _ => by omega, a6, by omega, by omega, fun _ => ⟨z8, Or.inl rfl⟩, fun _ => ⟨fun q => absurd rfl q, by rw [q3 103 (by decide), D2, I_toInt (by unfold R; omega)]; exact Int.le_refl _⟩, fun q => absurd q (by decide)⟩, fun _ => by rw [a7, z4], n1, Or.inr (Or.inl ⟨rfl, n0, rfl⟩)⟩, ?_, fc r (by omega), fc, ⟨⟨fun k h1 h2 => fc k (by omega), fun k h1 h2 w hw => by rw [hσ]; exact send_ne hw, fun i _ _ => by rw [fc r (by omega)], by rw [hσ]; rfl⟩, ⟨q3, fun i h1 h2 h3 => q2 i h3, q4⟩⟩⟩
  · exact QM_congr hM hM.1 (CV_rows hM.2.1 (fun j g1 g2 => fc j (by omega))) (RV_cells hM.2.2.1 hM.1.1 (lv6 hM.1) (by rw [q3 102 (by decide)]) (q3 103 (by decide)) (q3 104 (by decide)) (fun i hi => q2 i (by omega)))
      (fun i hi => by rw [fc m (by omega)]) (fc _ (by omega)) (fc _ (by omega)) (by rw [q3 102 (by decide)]) (by rw [q3 102 (by decide)]) (q3 103 (by decide)) (q2 35 (by omega)) (fun w hw => q2 _ (by omega))
  · unfold QR
    rw [fc r (by omega), q2 36 (by omega), q2 37 (by omega), q2 38 (by omega), q2 39 (by omega), q2 40 (by omega), q2 41 (by omega), q2 42 (by omega)]
    exact hR
  · exact LR_congr hL rfl rfl (fun k h1 h2 => fc k (by omega)) (fun i hi => q2 i (by omega))
end
section
/-! PURE: a round begins -/
theorem pu_congr {f g : Nat → Int} : ∀ (r v : Nat), (∀ w, v ≤ w → w < v + r → f w = g w) → pu f r v = pu g r v
  | 0, _, _ => rfl
  | r + 1, v, h => by
    unfold pu
    rw [h v (Nat.le_refl _) (by omega), pu_congr r (v + 1) (fun w h1 h2 => h w (by omega) (by omega))]
theorem pu_ge {f : Nat → Int} {w : Nat} : ∀ (r v : Nat), (∀ w, v ≤ w → w < v + r → 0 ≤ f w) → v ≤ w → w < v + r → f w ≤ pu f r v ∧ 0 ≤ pu f r v
  | 0, v, _, h1, h2 => absurd h2 (by omega)
  | r + 1, v, h, h1, h2 => by
    have h0 := h v (Nat.le_refl _) (by omega)
    have key : 0 ≤ pu f r (v + 1) := pu_nn r (v + 1) (fun w h1 h2 => h w (by omega) (by omega))
    unfold pu
    by_cases c : w = v
    · subst c
      omega
    · have := pu_ge (w := w) r (v + 1) (fun w h1 h2 => h w (by omega) (by omega)) (by omega) (by omega)
      omega
where
  pu_nn {f : Nat → Int} : ∀ (r v : Nat), (∀ w, v ≤ w → w < v + r → 0 ≤ f w) → 0 ≤ pu f r v
  | 0, _, _ => Int.le_refl _
  | r + 1, v, h => by
    have h0 := h v (Nat.le_refl _) (by omega)
    have := pu_nn r (v + 1) (fun w h1 h2 => h w (by omega) (by omega))
    unfold pu
    omega
theorem shs_sum {d : MD} {V : Nat} {p but : Int} (hd : MDok d V) : ∀ (j u : Nat), j ≤ V → lcs d p but V j u ≠ none → pu (fun v => (shs d p but V j u v : Int)) j (V - j) = (u : Int)
  | 0, u, _, h => by
    unfold lcs at h
    by_cases c : u = 0
    · subst c; rfl
    · rw [if_neg c] at h
      exact absurd rfl h
  | j + 1, u, hj, hs => by
    have hv : V - (j + 1) < V := by omega
    have k1 := kx_le (p := p) (but := but) (u := u) hd hv
    obtain ⟨y, hy⟩ := Option.ne_none_iff_exists'.mp hs
    have at1 := mnf_at (show mnf _ _ = some y from hy)
    have hl1 := lst_le (f := fun i => oadd (cst d (V - (j + 1)) ((i * (d.lo (V - (j + 1))).toNat : Nat) : Int)) (lcs d p but V j (u - i * (d.lo (V - (j + 1))).toNat))) (t := some y) (kx d p but (V - (j + 1)) u)
    have hl2 := lst_at _ at1
    have es : sh1 d p but V j u = lst (fun i => oadd (cst d (V - (j + 1)) ((i * (d.lo (V - (j + 1))).toNat : Nat) : Int)) (lcs d p but V j (u - i * (d.lo (V - (j + 1))).toNat))) (some y) (kx d p but (V - (j + 1)) u) * (d.lo (V - (j + 1))).toNat := by
      unfold sh1; rw [hy]
    have sn : lcs d p but V j (u - sh1 d p but V j u) ≠ none := by
      intro q
      rw [es] at q
      rw [q] at hl2
      cases hl2
    have sl : sh1 d p but V j u ≤ u := by
      rw [es]
      exact Nat.le_trans (Nat.mul_le_mul_right _ hl1) k1
    have ih := shs_sum hd j _ (by omega) sn
    unfold pu
    rw [show V - (j + 1) + 1 = V - j from by omega, pu_congr (g := fun v => (shs d p but V j (u - sh1 d p but V j u) v : Int)) j (V - j) (fun w h1 h2 => by
      show ((shs d p but V (j + 1) u w : Nat) : Int) = _
      rw [shs, if_neg (by omega)]), ih]
    show ((shs d p but V (j + 1) u (V - (j + 1)) : Nat) : Int) + _ = _
    rw [shs, if_pos rfl]
    omega
theorem nu_all {f : Nat → Int32} : ∀ (r v : Nat), nu f r v = true → ∀ w, v ≤ w → w < v + r → f w = 0
  | 0, v, _, w, h1, h2 => absurd h2 (by omega)
  | r + 1, v, h, w, h1, h2 => by
    unfold nu at h
    by_cases c : f v = 0
    · rw [if_pos c] at h
      by_cases e : w = v
      · rw [e]; exact c
      · exact nu_all r (v + 1) h w (by omega) (by omega)
    · rw [if_neg c] at h
      cases h
def QPs (r : Nat) (σ τ : Wd) (V : Nat) (t : Int) (h n g : Nat → Int) : Prop := ∀ w, w < V → QP r σ τ t t w (h w) (n w) (g w)
theorem s85_skip {m r V v k : Nat} {σ : Wd} {bp : Bool} {c s : Int} (h3 : σ.1 m 3 = I (V : Int)) (hV : V ≤ 5) (hv : v < V) (hs : (if bp then σ.1 (m + 7) v else σ.1 5 v) = I s) (s0 : s = 0) : f_X4_startRound_85 r m (k + 1) (I (bn bp)) (I c) (I (v : Int)) σ = f_X4_startRound_85 r m k (I (bn bp)) (I c) (I ((v : Int) + 1)) σ := by
  rw [f_X4_startRound_85]
  cases bp with
  | true =>
    have hs : σ.1 (m + 7) v = I s := hs
    simp (disch := omega) only [↓reduceIte, gd_t, bd_s, nm_W, nm_I, I_add, I_sub, I_mul, I_neg, I_le_t, I_le_f, I_lt_t, I_lt_f, I_eq_t, I_eq_f, I_inb', I_ix', Int.toNat_natCast, decide_true, decide_false, Bool.not_false, Bool.not_true, if_true, if_false, wi_eq, wi_eq', wi_ne, wi_row, wi_2, N0, N1, N2, N3, N4, N5, N6, N7, N8, N9, N10, N11, N12, N13, N14, N15, N16, N17, N18, N19, N20, N21, N22, N23, N24, N25, N26, N27, N28, N29, N30, N31, N32, N33, N34, N35, N36, N37, N38, N39, N40, N41, N42, N43, N45, N48, N57, N59, N88, N89, N97, N99, N120, N121, N122, N179, N200, N255, N300, N400, N880, N900, N999, N1019, N50000000, N100000000, N1000000000, N2147483647, N2147483648, h3, bn_t, hs, f_X4_startRound_115, f_X4_startRound_134]
  | false =>
    have hs : σ.1 5 v = I s := hs
    simp (disch := omega) only [↓reduceIte, gd_t, bd_s, nm_W, nm_I, I_add, I_sub, I_mul, I_neg, I_le_t, I_le_f, I_lt_t, I_lt_f, I_eq_t, I_eq_f, I_inb', I_ix', Int.toNat_natCast, decide_true, decide_false, Bool.not_false, Bool.not_true, if_true, if_false, wi_eq, wi_eq', wi_ne, wi_row, wi_2, N0, N1, N2, N3, N4, N5, N6, N7, N8, N9, N10, N11, N12, N13, N14, N15, N16, N17, N18, N19, N20, N21, N22, N23, N24, N25, N26, N27, N28, N29, N30, N31, N32, N33, N34, N35, N36, N37, N38, N39, N40, N41, N42, N43, N45, N48, N57, N59, N88, N89, N97, N99, N120, N121, N122, N179, N200, N255, N300, N400, N880, N900, N999, N1019, N50000000, N100000000, N1000000000, N2147483647, N2147483648, h3, bn_f, hs, f_X4_startRound_115, f_X4_startRound_134]
theorem s85_send {m r V v k : Nat} {σ σ' : Wd} {bp : Bool} {c s : Int} (h3 : σ.1 m 3 = I (V : Int)) (hV : V ≤ 5) (hv : v < V) (hs : (if bp then σ.1 (m + 7) v else σ.1 5 v) = I s) (s0 : 0 < s) (s1 : s ≤ 120) (e : f_X4_send r m (I (v : Int)) (I s) σ = some (0, σ')) : f_X4_startRound_85 r m (k + 1) (I (bn bp)) (I c) (I (v : Int)) σ = f_X4_startRound_85 r m k (I (bn bp)) (I (c + 1)) (I ((v : Int) + 1)) σ' := by
  rw [f_X4_startRound_85]
  cases bp with
  | true =>
    have hs : σ.1 (m + 7) v = I s := hs
    simp (disch := omega) only [↓reduceIte, gd_t, bd_s, nm_W, nm_I, I_add, I_sub, I_mul, I_neg, I_le_t, I_le_f, I_lt_t, I_lt_f, I_eq_t, I_eq_f, I_inb', I_ix', Int.toNat_natCast, decide_true, decide_false, Bool.not_false, Bool.not_true, if_true, if_false, wi_eq, wi_eq', wi_ne, wi_row, wi_2, N0, N1, N2, N3, N4, N5, N6, N7, N8, N9, N10, N11, N12, N13, N14, N15, N16, N17, N18, N19, N20, N21, N22, N23, N24, N25, N26, N27, N28, N29, N30, N31, N32, N33, N34, N35, N36, N37, N38, N39, N40, N41, N42, N43, N45, N48, N57, N59, N88, N89, N97, N99, N120, N121, N122, N179, N200, N255, N300, N400, N880, N900, N999, N1019, N50000000, N100000000, N1000000000, N2147483647, N2147483648, h3, bn_t, hs, f_X4_startRound_115, e, f_X4_startRound_134]
  | false =>
    have hs : σ.1 5 v = I s := hs
    simp (disch := omega) only [↓reduceIte, gd_t, bd_s, nm_W, nm_I, I_add, I_sub, I_mul, I_neg, I_le_t, I_le_f, I_lt_t, I_lt_f, I_eq_t, I_eq_f, I_inb', I_ix', Int.toNat_natCast, decide_true, decide_false, Bool.not_false, Bool.not_true, if_true, if_false, wi_eq, wi_eq', wi_ne, wi_row, wi_2, N0, N1, N2, N3, N4, N5, N6, N7, N8, N9, N10, N11, N12, N13, N14, N15, N16, N17, N18, N19, N20, N21, N22, N23, N24, N25, N26, N27, N28, N29, N30, N31, N32, N33, N34, N35, N36, N37, N38, N39, N40, N41, N42, N43, N45, N48, N57, N59, N88, N89, N97, N99, N120, N121, N122, N179, N200, N255, N300, N400, N880, N900, N999, N1019, N50000000, N100000000, N1000000000, N2147483647, N2147483648, h3, bn_f, hs, f_X4_startRound_115, e, f_X4_startRound_134]
theorem s112_skip {V v k : Nat} {τ : Wd} {c s : Int} (h3 : τ.1 102 14 = I (V : Int)) (hV : V ≤ 5) (hv : v < V) (hs : τ.1 117 v = I s) (s0 : s = 0) : f_X7_beginsRound_112 (k + 1) (I c) (I (v : Int)) τ = f_X7_beginsRound_112 k (I c) (I ((v : Int) + 1)) τ := by
  rw [f_X7_beginsRound_112]
  simp (disch := omega) only [↓reduceIte, gd_t, bd_s, nm_W, nm_I, I_add, I_sub, I_mul, I_neg, I_le_t, I_le_f, I_lt_t, I_lt_f, I_eq_t, I_eq_f, I_inb', I_ix', Int.toNat_natCast, decide_true, decide_false, Bool.not_false, Bool.not_true, if_true, if_false, wi_eq, wi_eq', wi_ne, wi_row, wi_2, N0, N1, N2, N3, N4, N5, N6, N7, N8, N9, N10, N11, N12, N13, N14, N15, N16, N17, N18, N19, N20, N21, N22, N23, N24, N25, N26, N27, N28, N29, N30, N31, N32, N33, N34, N35, N36, N37, N38, N39, N40, N41, N42, N43, N45, N48, N57, N59, N88, N89, N97, N99, N120, N121, N122, N179, N200, N255, N300, N400, N880, N900, N999, N1019, N50000000, N100000000, N1000000000, N2147483647, N2147483648, h3, hs, f_X7_beginsRound_146]
theorem s112_send {V v k : Nat} {τ τ' : Wd} {c s : Int} (h3 : τ.1 102 14 = I (V : Int)) (hV : V ≤ 5) (hv : v < V) (hs : τ.1 117 v = I s) (s0 : 0 < s) (s1 : s ≤ 120) (e : f_X7_sends (I (v : Int)) (I s) τ = some (0, τ')) : f_X7_beginsRound_112 (k + 1) (I c) (I (v : Int)) τ = f_X7_beginsRound_112 k (I (c + 1)) (I ((v : Int) + 1)) τ' := by
  rw [f_X7_beginsRound_112]
  simp (disch := omega) only [↓reduceIte, gd_t, bd_s, nm_W, nm_I, I_add, I_sub, I_mul, I_neg, I_le_t, I_le_f, I_lt_t, I_lt_f, I_eq_t, I_eq_f, I_inb', I_ix', Int.toNat_natCast, decide_true, decide_false, Bool.not_false, Bool.not_true, if_true, if_false, wi_eq, wi_eq', wi_ne, wi_row, wi_2, N0, N1, N2, N3, N4, N5, N6, N7, N8, N9, N10, N11, N12, N13, N14, N15, N16, N17, N18, N19, N20, N21, N22, N23, N24, N25, N26, N27, N28, N29, N30, N31, N32, N33, N34, N35, N36, N37, N38, N39, N40, N41, N42, N43, N45, N48, N57, N59, N88, N89, N97, N99, N120, N121, N122, N179, N200, N255, N300, N400, N880, N900, N999, N1019, N50000000, N100000000, N1000000000, N2147483647, N2147483648, h3, hs, e, f_X7_beginsRound_146]
set_option maxHeartbeats 1000000 in
theorem sends_ok {m r V : Nat} {d : MD} {p L W : Int} {dl pl : Nat → Int} {b bp : Bool} {t s : Int} {sh : Nat → Int} (hm : 10 < m) (hmr : m + 12 < r) (hsh : ∀ w, w < V → 0 ≤ sh w ∧ sh w ≤ 120) :
    ∀ (rr v n1 n2 : Nat) (c z : Int) (h n g : Nat → Int) (σ τ : Wd), z = (v : Int) → v + rr = V → rr < n1 → rr < n2 → QM m σ τ V d p L W dl pl → QR r σ τ b t s → LR (r + 9) σ τ V d → QPs r σ τ V t h n g → (∀ w, v ≤ w → w < V → h w = 0) →
      (∀ w, w < V → (if bp then σ.1 (m + 7) w else σ.1 5 w) = I (sh w) ∧ τ.1 117 w = I (sh w)) →
      ∃ (σ' τ' : Wd) (h' n' g' : Nat → Int) (c' : Int), f_X4_startRound_85 r m n1 (I (bn bp)) (I c) (I z) σ = some (I c', σ') ∧ f_X7_beginsRound_112 n2 (I c) (I z) τ = some (I c', τ') ∧ QM m σ' τ' V d p L W dl pl ∧ QR r σ' τ' b t s ∧ LR (r + 9) σ' τ' V d ∧ QPs r σ' τ' V t h' n' g'
        ∧ (∀ w, w < v → n' w = n w) ∧ (∀ w, v ≤ w → w < V → n' w = sh w) ∧ (∀ k, k < r + 1 ∨ r + 8 < k → σ'.1 k = σ.1 k) ∧ σ'.2 = σ.2 ∧ (∀ k, k ≠ 112 → τ'.1 k = τ.1 k) ∧ τ'.2 = τ.2
  | 0, v, n1 + 1, n2 + 1, c, z, h, n, g, σ, τ, hz, hv, _, _, hM, hR, hL, hP, h0, hs => by
    have h5 := hM.1.1
    have e1 := hM.2.1.1
    have e2 := hM.2.2.1.1
    refine ⟨σ, τ, h, n, g, c, ?_, ?_, hM, hR, hL, hP, fun _ _ => rfl, fun w h1 h2 => absurd h2 (by omega), fun _ _ => rfl, rfl, fun _ _ => rfl, rfl⟩
    · clear hM hR hL hP h0 hs
      rw [f_X4_startRound_85]
      simp (disch := omega) only [↓reduceIte, gd_t, bd_s, nm_W, nm_I, I_add, I_sub, I_mul, I_neg, I_le_t, I_le_f, I_lt_t, I_lt_f, I_eq_t, I_eq_f, I_inb', I_ix', Int.toNat_natCast, decide_true, decide_false, Bool.not_false, Bool.not_true, if_true, if_false, wi_eq, wi_eq', wi_ne, wi_row, wi_2, N0, N1, N2, N3, N4, N5, N6, N7, N8, N9, N10, N11, N12, N13, N14, N15, N16, N17, N18, N19, N20, N21, N22, N23, N24, N25, N26, N27, N28, N29, N30, N31, N32, N33, N34, N35, N36, N37, N38, N39, N40, N41, N42, N43, N45, N48, N57, N59, N88, N89, N97, N99, N120, N121, N122, N179, N200, N255, N300, N400, N880, N900, N999, N1019, N50000000, N100000000, N1000000000, N2147483647, N2147483648, e1]
    · clear hM hR hL hP h0 hs
      rw [f_X7_beginsRound_112]
      simp (disch := omega) only [↓reduceIte, gd_t, bd_s, nm_W, nm_I, I_add, I_sub, I_mul, I_neg, I_le_t, I_le_f, I_lt_t, I_lt_f, I_eq_t, I_eq_f, I_inb', I_ix', Int.toNat_natCast, decide_true, decide_false, Bool.not_false, Bool.not_true, if_true, if_false, wi_eq, wi_eq', wi_ne, wi_row, wi_2, N0, N1, N2, N3, N4, N5, N6, N7, N8, N9, N10, N11, N12, N13, N14, N15, N16, N17, N18, N19, N20, N21, N22, N23, N24, N25, N26, N27, N28, N29, N30, N31, N32, N33, N34, N35, N36, N37, N38, N39, N40, N41, N42, N43, N45, N48, N57, N59, N88, N89, N97, N99, N120, N121, N122, N179, N200, N255, N300, N400, N880, N900, N999, N1019, N50000000, N100000000, N1000000000, N2147483647, N2147483648, e2]
  | rr + 1, v, n1 + 1, n2 + 1, c, z, h, n, g, σ, τ, hz, hv, hn1, hn2, hM, hR, hL, hP, h0, hs => by
    subst hz
    have h5 := hM.1.1
    have e1 := hM.2.1.1
    have e2 := hM.2.2.1.1
    have hvV : v < V := by omega
    obtain ⟨s1, s2⟩ := hs v hvV
    obtain ⟨b1, b2⟩ := hsh v hvV
    by_cases c0 : sh v = 0
    · obtain ⟨σ', τ', h', n', g', c', q1, q2, q3, q4, q5, q6, q7, q8, q9⟩ := sends_ok hm hmr hsh rr (v + 1) n1 n2 c ((v : Int) + 1) h n g σ τ (by omega) (by omega) (by omega) (by omega) hM hR hL hP (fun w h1 h2 => h0 w (by omega) h2) hs
      refine ⟨σ', τ', h', n', g', c', by rw [s85_skip e1 h5 hvV s1 c0]; exact q1, by rw [s112_skip e2 h5 hvV s2 c0]; exact q2, q3, q4, q5, q6, fun w hw => q7 w (by omega), fun w h1 h2 => ?_, q9⟩
      by_cases e : w = v
      · have hp := (hP v hvV).2.2.2.2.2.2.2.2
        have h00 := h0 v (Nat.le_refl _) hvV
        rw [e, q7 v (by omega), c0]
        omega
      · exact q8 w (by omega) h2
    · obtain ⟨σ1, τ1, a1, a2, a3, a4, a5, a6, a7, a8, a9⟩ := send_ok (n := sh v) hm hmr hvV hM hR hL (by omega) b2
      obtain ⟨σ', τ', h', n', g', c', q1, q2, q3, q4, q5, q6, q7, q8, q9, q10, q11, q12⟩ := sends_ok hm hmr hsh rr (v + 1) n1 n2 (c + 1) ((v : Int) + 1) (fun w => if w = v then 1 else h w) (fun w => if w = v then sh v else n w) (fun w => if w = v then 0 else g w) σ1 τ1 (by omega) (by omega) (by omega) (by omega) a3 a4 a6
        (fun w hw => by
          by_cases e : w = v
          · subst e
            simp only [if_true]
            exact a5
          · simp only [if_neg e]
            exact QP_congr (hP w hw) (fun k g1 g2 => a9.1.2.1 k g1 g2 w e) (fun i g1 g2 => a9.2.2.1 i (by omega) (by omega) (by omega)) (a9.2.1 103 (by decide)))
        (fun w h1 h2 => by
          simp only [if_neg (show ¬ w = v by omega)]
          exact h0 w (by omega) h2)
        (fun w hw => by rw [a8 (m + 7) (by omega), a8 5 (by omega), a9.2.1 117 (by decide)]; exact hs w hw)
      refine ⟨σ', τ', h', n', g', c', by rw [s85_send e1 h5 hvV s1 (by omega) b2 a1]; exact q1, by rw [s112_send e2 h5 hvV s2 (by omega) b2 a2]; exact q2, q3, q4, q5, q6, fun w hw => ?_, fun w h1 h2 => ?_, fun k hk => by rw [q9 k hk, a8 k hk], by rw [q10, a9.1.2.2.2], fun k hk => by rw [q11 k hk, a9.2.1 k hk], by rw [q12, a9.2.2.2]⟩
      · have := q7 w (by omega)
        simp only [if_neg (show ¬ w = v by omega)] at this
        exact this
      · by_cases e : w = v
        · have := q7 w (by omega)
          simp only [if_pos e] at this
          rw [this, e]
        · exact q8 w (by omega) h2
end
section
/-! PURE: a round begins, whole -/
theorem ps_pu {d : MD} {p w : Int} {pl : Nat → Int} {V : Nat} : ∀ (r v : Nat), ps d p w pl V r v = true → pu pl V 0 ≤ w
  | 0, _, h => of_decide_eq_true h
  | r + 1, v, h => by
    unfold ps at h
    split at h
    · exact ps_pu r (v + 1) h
    · cases h
theorem r_pl {V : Nat} {pl : Nat → Int} (hV : V ≤ 5) : ∀ (r v n : Nat) (z : Int) (τ : Wd), z = (v : Int) → v + r = V → r < n → τ.1 102 14 = I (V : Int) → (∀ w, w < V → τ.1 112 (43 + w) = I (pl w)) → (∀ w, w < v → τ.1 117 w = I (pl w)) →
    ∃ τ', f_X7_beginsRound_68 n (I z) τ = f_X7_beginsRound_97 τ' ∧ (∀ w, w < V → τ'.1 117 w = I (pl w)) ∧ (∀ k, k ≠ 117 → τ'.1 k = τ.1 k) ∧ τ'.2 = τ.2
  | 0, v, n + 1, z, τ, hz, hv, _, h, hp, hw => by
    refine ⟨τ, ?_, fun w h1 => hw w (by omega), fun _ _ => rfl, rfl⟩
    rw [f_X7_beginsRound_68]
    simp (disch := omega) only [↓reduceIte, gd_t, bd_s, nm_W, nm_I, I_add, I_sub, I_mul, I_neg, I_le_t, I_le_f, I_lt_t, I_lt_f, I_eq_t, I_eq_f, I_inb', I_ix', Int.toNat_natCast, decide_true, decide_false, Bool.not_false, Bool.not_true, if_true, if_false, wi_eq, wi_eq', wi_ne, wi_row, wi_2, N0, N1, N2, N3, N4, N5, N6, N7, N8, N9, N10, N11, N12, N13, N14, N15, N16, N17, N18, N19, N20, N21, N22, N23, N24, N25, N26, N27, N28, N29, N30, N31, N32, N33, N34, N35, N36, N37, N38, N39, N40, N41, N42, N43, N45, N48, N57, N59, N88, N89, N97, N99, N120, N121, N122, N179, N200, N255, N300, N400, N880, N900, N999, N1019, N50000000, N100000000, N1000000000, N2147483647, N2147483648, h]
  | r + 1, v, n + 1, z, τ, hz, hv, hn, h, hp, hw => by
    subst hz
    have t1 : ((43 : Int) + (v : Int)).toNat = 43 + v := by omega
    obtain ⟨τ', q1, q2, q3, q4⟩ := r_pl hV r (v + 1) n ((v : Int) + 1) (wi τ 117 v (I (pl v))) (by omega) (by omega) (by omega) (by rw [wi_row (by decide)]; exact h) (fun w h1 => by rw [wi_row (by decide)]; exact hp w h1)
      (fun w h1 => by
        by_cases c : w = v
        · subst c; rw [wi_eq]
        · rw [wi_ne c]; exact hw w (by omega))
    refine ⟨τ', ?_, q2, fun k hk => by rw [q3 k hk, wi_row hk], by rw [q4, wi_2]⟩
    rw [← q1, f_X7_beginsRound_68]
    simp (disch := omega) only [↓reduceIte, gd_t, bd_s, nm_W, nm_I, I_add, I_sub, I_mul, I_neg, I_le_t, I_le_f, I_lt_t, I_lt_f, I_eq_t, I_eq_f, I_inb', I_ix', Int.toNat_natCast, decide_true, decide_false, Bool.not_false, Bool.not_true, if_true, if_false, wi_eq, wi_eq', wi_ne, wi_row, wi_2, N0, N1, N2, N3, N4, N5, N6, N7, N8, N9, N10, N11, N12, N13, N14, N15, N16, N17, N18, N19, N20, N21, N22, N23, N24, N25, N26, N27, N28, N29, N30, N31, N32, N33, N34, N35, N36, N37, N38, N39, N40, N41, N42, N43, N45, N48, N57, N59, N88, N89, N97, N99, N120, N121, N122, N179, N200, N255, N300, N400, N880, N900, N999, N1019, N50000000, N100000000, N1000000000, N2147483647, N2147483648, h, t1, hp v (by omega)]
/-! the choice of the class, by cases -/
theorem sr_no {m r V : Nat} {σ : Wd} {s : Int} {x : Bool} (hV : V ≤ 5) (e1 : f_X4_nothingUnderWay r m σ = some (I (bn x), σ)) (hx : x = false ∨ s = 0) (r2 : σ.1 r 2 = I s) : f_X4_startRound r m σ = some (I 0, σ) := by
  unfold f_X4_startRound
  rcases hx with hx | hx
  · rw [hx] at e1
    simp (disch := omega) only [↓reduceIte, gd_t, bd_s, nm_W, nm_I, I_add, I_sub, I_mul, I_neg, I_le_t, I_le_f, I_lt_t, I_lt_f, I_eq_t, I_eq_f, I_inb', I_ix', Int.toNat_natCast, decide_true, decide_false, Bool.not_false, Bool.not_true, if_true, if_false, wi_eq, wi_eq', wi_ne, wi_row, wi_2, N0, N1, N2, N3, N4, N5, N6, N7, N8, N9, N10, N11, N12, N13, N14, N15, N16, N17, N18, N19, N20, N21, N22, N23, N24, N25, N26, N27, N28, N29, N30, N31, N32, N33, N34, N35, N36, N37, N38, N39, N40, N41, N42, N43, N45, N48, N57, N59, N88, N89, N97, N99, N120, N121, N122, N179, N200, N255, N300, N400, N880, N900, N999, N1019, N50000000, N100000000, N1000000000, N2147483647, N2147483648, e1, bn_f, f_X4_startRound_26]
  · cases x with
    | false => simp (disch := omega) only [↓reduceIte, gd_t, bd_s, nm_W, nm_I, I_add, I_sub, I_mul, I_neg, I_le_t, I_le_f, I_lt_t, I_lt_f, I_eq_t, I_eq_f, I_inb', I_ix', Int.toNat_natCast, decide_true, decide_false, Bool.not_false, Bool.not_true, if_true, if_false, wi_eq, wi_eq', wi_ne, wi_row, wi_2, N0, N1, N2, N3, N4, N5, N6, N7, N8, N9, N10, N11, N12, N13, N14, N15, N16, N17, N18, N19, N20, N21, N22, N23, N24, N25, N26, N27, N28, N29, N30, N31, N32, N33, N34, N35, N36, N37, N38, N39, N40, N41, N42, N43, N45, N48, N57, N59, N88, N89, N97, N99, N120, N121, N122, N179, N200, N255, N300, N400, N880, N900, N999, N1019, N50000000, N100000000, N1000000000, N2147483647, N2147483648, e1, bn_f, f_X4_startRound_26]
    | true => simp (disch := omega) only [↓reduceIte, gd_t, bd_s, nm_W, nm_I, I_add, I_sub, I_mul, I_neg, I_le_t, I_le_f, I_lt_t, I_lt_f, I_eq_t, I_eq_f, I_inb', I_ix', Int.toNat_natCast, decide_true, decide_false, Bool.not_false, Bool.not_true, if_true, if_false, wi_eq, wi_eq', wi_ne, wi_row, wi_2, N0, N1, N2, N3, N4, N5, N6, N7, N8, N9, N10, N11, N12, N13, N14, N15, N16, N17, N18, N19, N20, N21, N22, N23, N24, N25, N26, N27, N28, N29, N30, N31, N32, N33, N34, N35, N36, N37, N38, N39, N40, N41, N42, N43, N45, N48, N57, N59, N88, N89, N97, N99, N120, N121, N122, N179, N200, N255, N300, N400, N880, N900, N999, N1019, N50000000, N100000000, N1000000000, N2147483647, N2147483648, e1, bn_t, r2, f_X4_startRound_26]
theorem sr_nolot {m r : Nat} {σ : Wd} {s : Int} (e1 : f_X4_nothingUnderWay r m σ = some (I 1, σ)) (r2 : σ.1 r 2 = I s) (s0 : 0 < s) (s1 : s ≤ 120) (e2 : f_X3_hasLotWithin m (I s) σ = some (I 0, σ)) : f_X4_startRound r m σ = some (I 0, σ) := by
  unfold f_X4_startRound
  simp (disch := omega) only [↓reduceIte, gd_t, bd_s, nm_W, nm_I, I_add, I_sub, I_mul, I_neg, I_le_t, I_le_f, I_lt_t, I_lt_f, I_eq_t, I_eq_f, I_inb', I_ix', Int.toNat_natCast, decide_true, decide_false, Bool.not_false, Bool.not_true, if_true, if_false, wi_eq, wi_eq', wi_ne, wi_row, wi_2, N0, N1, N2, N3, N4, N5, N6, N7, N8, N9, N10, N11, N12, N13, N14, N15, N16, N17, N18, N19, N20, N21, N22, N23, N24, N25, N26, N27, N28, N29, N30, N31, N32, N33, N34, N35, N36, N37, N38, N39, N40, N41, N42, N43, N45, N48, N57, N59, N88, N89, N97, N99, N120, N121, N122, N179, N200, N255, N300, N400, N880, N900, N999, N1019, N50000000, N100000000, N1000000000, N2147483647, N2147483648, e1, r2, e2, f_X4_startRound_26]
theorem sr_go1 {m r : Nat} {σ : Wd} {s P rd : Int} {b : Bool} (hrd : rd = 0) (e1 : f_X4_nothingUnderWay r m σ = some (I 1, σ)) (r2 : σ.1 r 2 = I s) (s0 : 0 < s) (s1 : s ≤ 120) (e2 : f_X3_hasLotWithin m (I s) σ = some (I 1, σ)) (r6 : σ.1 r 6 = I rd) (e3 : f_X3_planUnits m σ = some (I P, σ)) (P0 : 0 < P) (P1 : P ≤ 1000) (e4 : f_X3_planStands m σ = some (I (bn b), σ)) :
    f_X4_startRound r m σ = f_X4_startRound_54 r m (I (bn b)) σ := by
  obtain ⟨x, hx⟩ : ∃ x, x = bn b := ⟨_, rfl⟩
  have xb := bn_bnd b
  rw [← hx] at e4 xb ⊢
  unfold f_X4_startRound
  by_cases c : x = 0
  · simp (disch := omega) only [↓reduceIte, gd_t, bd_s, nm_W, nm_I, I_add, I_sub, I_mul, I_neg, I_le_t, I_le_f, I_lt_t, I_lt_f, I_eq_t, I_eq_f, I_inb', I_ix', Int.toNat_natCast, decide_true, decide_false, Bool.not_false, Bool.not_true, if_true, if_false, wi_eq, wi_eq', wi_ne, wi_row, wi_2, N0, N1, N2, N3, N4, N5, N6, N7, N8, N9, N10, N11, N12, N13, N14, N15, N16, N17, N18, N19, N20, N21, N22, N23, N24, N25, N26, N27, N28, N29, N30, N31, N32, N33, N34, N35, N36, N37, N38, N39, N40, N41, N42, N43, N45, N48, N57, N59, N88, N89, N97, N99, N120, N121, N122, N179, N200, N255, N300, N400, N880, N900, N999, N1019, N50000000, N100000000, N1000000000, N2147483647, N2147483648, e1, r2, e2, r6, e3, e4, f_X4_startRound_53]
    rw [c]
  · simp (disch := omega) only [↓reduceIte, gd_t, bd_s, nm_W, nm_I, I_add, I_sub, I_mul, I_neg, I_le_t, I_le_f, I_lt_t, I_lt_f, I_eq_t, I_eq_f, I_inb', I_ix', Int.toNat_natCast, decide_true, decide_false, Bool.not_false, Bool.not_true, if_true, if_false, wi_eq, wi_eq', wi_ne, wi_row, wi_2, N0, N1, N2, N3, N4, N5, N6, N7, N8, N9, N10, N11, N12, N13, N14, N15, N16, N17, N18, N19, N20, N21, N22, N23, N24, N25, N26, N27, N28, N29, N30, N31, N32, N33, N34, N35, N36, N37, N38, N39, N40, N41, N42, N43, N45, N48, N57, N59, N88, N89, N97, N99, N120, N121, N122, N179, N200, N255, N300, N400, N880, N900, N999, N1019, N50000000, N100000000, N1000000000, N2147483647, N2147483648, e1, r2, e2, r6, e3, e4]
    rw [show x = 1 from by omega]
theorem sr_go2 {m r : Nat} {σ : Wd} {s rd P : Int} (e1 : f_X4_nothingUnderWay r m σ = some (I 1, σ)) (r2 : σ.1 r 2 = I s) (s0 : 0 < s) (s1 : s ≤ 120) (e2 : f_X3_hasLotWithin m (I s) σ = some (I 1, σ)) (r6 : σ.1 r 6 = I rd) (rd0 : 0 ≤ rd) (rd1 : rd ≤ 2000000) (e3 : f_X3_planUnits m σ = some (I P, σ)) (P0 : 0 ≤ P) (hh : ¬ rd = 0 ∨ P = 0) :
    f_X4_startRound r m σ = f_X4_startRound_54 r m (I 0) σ := by
  unfold f_X4_startRound
  by_cases c1 : rd = 0
  · have c2 : P = 0 := by omega
    simp (disch := omega) only [↓reduceIte, gd_t, bd_s, nm_W, nm_I, I_add, I_sub, I_mul, I_neg, I_le_t, I_le_f, I_lt_t, I_lt_f, I_eq_t, I_eq_f, I_inb', I_ix', Int.toNat_natCast, decide_true, decide_false, Bool.not_false, Bool.not_true, if_true, if_false, wi_eq, wi_eq', wi_ne, wi_row, wi_2, N0, N1, N2, N3, N4, N5, N6, N7, N8, N9, N10, N11, N12, N13, N14, N15, N16, N17, N18, N19, N20, N21, N22, N23, N24, N25, N26, N27, N28, N29, N30, N31, N32, N33, N34, N35, N36, N37, N38, N39, N40, N41, N42, N43, N45, N48, N57, N59, N88, N89, N97, N99, N120, N121, N122, N179, N200, N255, N300, N400, N880, N900, N999, N1019, N50000000, N100000000, N1000000000, N2147483647, N2147483648, e1, r2, e2, r6, e3, f_X4_startRound_53]
  · simp (disch := omega) only [↓reduceIte, gd_t, bd_s, nm_W, nm_I, I_add, I_sub, I_mul, I_neg, I_le_t, I_le_f, I_lt_t, I_lt_f, I_eq_t, I_eq_f, I_inb', I_ix', Int.toNat_natCast, decide_true, decide_false, Bool.not_false, Bool.not_true, if_true, if_false, wi_eq, wi_eq', wi_ne, wi_row, wi_2, N0, N1, N2, N3, N4, N5, N6, N7, N8, N9, N10, N11, N12, N13, N14, N15, N16, N17, N18, N19, N20, N21, N22, N23, N24, N25, N26, N27, N28, N29, N30, N31, N32, N33, N34, N35, N36, N37, N38, N39, N40, N41, N42, N43, N45, N48, N57, N59, N88, N89, N97, N99, N120, N121, N122, N179, N200, N255, N300, N400, N880, N900, N999, N1019, N50000000, N100000000, N1000000000, N2147483647, N2147483648, e1, r2, e2, r6, f_X4_startRound_53]
theorem sr_go {m r : Nat} {σ : Wd} {s rd P : Int} {b : Bool} (e1 : f_X4_nothingUnderWay r m σ = some (I 1, σ)) (r2 : σ.1 r 2 = I s) (s0 : 0 < s) (s1 : s ≤ 120) (e2 : f_X3_hasLotWithin m (I s) σ = some (I 1, σ)) (r6 : σ.1 r 6 = I rd) (rd0 : 0 ≤ rd) (rd1 : rd ≤ 2000000) (e3 : f_X3_planUnits m σ = some (I P, σ)) (P0 : 0 ≤ P) (P1 : P ≤ 1000) (e4 : f_X3_planStands m σ = some (I (bn b), σ)) :
    f_X4_startRound r m σ = f_X4_startRound_54 r m (I (bn (decide (rd = 0 ∧ 0 < P) && b))) σ := by
  by_cases c : rd = 0 ∧ 0 < P
  · rw [decide_eq_true c, Bool.true_and]
    exact sr_go1 c.1 e1 r2 s0 s1 e2 r6 e3 c.2 P1 e4
  · rw [decide_eq_false c, Bool.false_and, bn_f]
    exact sr_go2 e1 r2 s0 s1 e2 r6 rd0 rd1 e3 P0 (by omega)
theorem sr_54 {m r : Nat} {σ σ1 : Wd} {s rd : Int} {bp : Bool} (r2 : σ.1 r 2 = I s) (r6 : σ1.1 r 6 = I rd) (e : bp = false → f_X1_choose m (I s) (I (-1)) σ = some (0, σ1)) (e2 : bp = true → σ1 = σ) :
    f_X4_startRound_54 r m (I (bn bp)) σ = f_X4_startRound_85 r m FU (I (bn bp)) (I 0) (I 0) (wi σ1 r 6 (I (rd + 1))) := by
  unfold f_X4_startRound_54 f_X4_startRound_69
  cases bp with
  | false =>
    have e := e rfl
    simp (disch := omega) only [↓reduceIte, gd_t, bd_s, nm_W, nm_I, I_add, I_sub, I_mul, I_neg, I_le_t, I_le_f, I_lt_t, I_lt_f, I_eq_t, I_eq_f, I_inb', I_ix', Int.toNat_natCast, decide_true, decide_false, Bool.not_false, Bool.not_true, if_true, if_false, wi_eq, wi_eq', wi_ne, wi_row, wi_2, N0, N1, N2, N3, N4, N5, N6, N7, N8, N9, N10, N11, N12, N13, N14, N15, N16, N17, N18, N19, N20, N21, N22, N23, N24, N25, N26, N27, N28, N29, N30, N31, N32, N33, N34, N35, N36, N37, N38, N39, N40, N41, N42, N43, N45, N48, N57, N59, N88, N89, N97, N99, N120, N121, N122, N179, N200, N255, N300, N400, N880, N900, N999, N1019, N50000000, N100000000, N1000000000, N2147483647, N2147483648, bn_f, r2, e, r6]
  | true =>
    have e2 := e2 rfl
    subst e2
    simp (disch := omega) only [↓reduceIte, gd_t, bd_s, nm_W, nm_I, I_add, I_sub, I_mul, I_neg, I_le_t, I_le_f, I_lt_t, I_lt_f, I_eq_t, I_eq_f, I_inb', I_ix', Int.toNat_natCast, decide_true, decide_false, Bool.not_false, Bool.not_true, if_true, if_false, wi_eq, wi_eq', wi_ne, wi_row, wi_2, N0, N1, N2, N3, N4, N5, N6, N7, N8, N9, N10, N11, N12, N13, N14, N15, N16, N17, N18, N19, N20, N21, N22, N23, N24, N25, N26, N27, N28, N29, N30, N31, N32, N33, N34, N35, N36, N37, N38, N39, N40, N41, N42, N43, N45, N48, N57, N59, N88, N89, N97, N99, N120, N121, N122, N179, N200, N255, N300, N400, N880, N900, N999, N1019, N50000000, N100000000, N1000000000, N2147483647, N2147483648, bn_t, r6]
/-! and of the reference -/
theorem br_no {τ : Wd} {s : Int} {x : Bool} (e1 : f_X7_isUnderWay τ = some (I (bn (!x)), τ)) (hx : x = false ∨ s = 0) (r2 : τ.1 112 38 = I s) : f_X7_beginsRound τ = some (I 0, τ) := by
  have w38 : Int.toNat 38 = 38 := rfl
  unfold f_X7_beginsRound
  rcases hx with hx | hx
  · rw [hx, Bool.not_false] at e1
    simp (disch := omega) only [↓reduceIte, gd_t, bd_s, nm_W, nm_I, I_add, I_sub, I_mul, I_neg, I_le_t, I_le_f, I_lt_t, I_lt_f, I_eq_t, I_eq_f, I_inb', I_ix', Int.toNat_natCast, decide_true, decide_false, Bool.not_true, if_true, if_false, wi_eq, wi_eq', wi_ne, wi_row, wi_2, N0, N1, N2, N3, N4, N5, N6, N7, N8, N9, N10, N11, N12, N13, N14, N15, N16, N17, N18, N19, N20, N21, N22, N23, N24, N25, N26, N27, N28, N29, N30, N31, N32, N33, N34, N35, N36, N37, N38, N39, N40, N41, N42, N43, N45, N48, N57, N59, N88, N89, N97, N99, N120, N121, N122, N179, N200, N255, N300, N400, N880, N900, N999, N1019, N50000000, N100000000, N1000000000, N2147483647, N2147483648, e1, bn_t, f_X7_beginsRound_17]
  · cases x with
    | false =>
      rw [Bool.not_false] at e1
      simp (disch := omega) only [↓reduceIte, gd_t, bd_s, nm_W, nm_I, I_add, I_sub, I_mul, I_neg, I_le_t, I_le_f, I_lt_t, I_lt_f, I_eq_t, I_eq_f, I_inb', I_ix', Int.toNat_natCast, decide_true, decide_false, Bool.not_true, if_true, if_false, wi_eq, wi_eq', wi_ne, wi_row, wi_2, N0, N1, N2, N3, N4, N5, N6, N7, N8, N9, N10, N11, N12, N13, N14, N15, N16, N17, N18, N19, N20, N21, N22, N23, N24, N25, N26, N27, N28, N29, N30, N31, N32, N33, N34, N35, N36, N37, N38, N39, N40, N41, N42, N43, N45, N48, N57, N59, N88, N89, N97, N99, N120, N121, N122, N179, N200, N255, N300, N400, N880, N900, N999, N1019, N50000000, N100000000, N1000000000, N2147483647, N2147483648, e1, bn_t, f_X7_beginsRound_17]
    | true =>
      rw [Bool.not_true] at e1
      simp (disch := omega) only [↓reduceIte, gd_t, bd_s, nm_W, nm_I, I_add, I_sub, I_mul, I_neg, I_le_t, I_le_f, I_lt_t, I_lt_f, I_eq_t, I_eq_f, I_inb', I_ix', Int.toNat_natCast, decide_true, decide_false, Bool.not_false, if_true, if_false, wi_eq, wi_eq', wi_ne, wi_row, wi_2, N0, N1, N2, N3, N4, N5, N6, N7, N8, N9, N10, N11, N12, N13, N14, N15, N16, N17, N18, N19, N20, N21, N22, N23, N24, N25, N26, N27, N28, N29, N30, N31, N32, N33, N34, N35, N36, N37, N38, N39, N40, N41, N42, N43, N45, N48, N57, N59, N88, N89, N97, N99, N120, N121, N122, N179, N200, N255, N300, N400, N880, N900, N999, N1019, N50000000, N100000000, N1000000000, N2147483647, N2147483648, e1, bn_f, w38, r2, f_X7_beginsRound_17]
theorem br_nolot {τ τ1 : Wd} {s : Int} (e1 : f_X7_isUnderWay τ = some (I 0, τ)) (r2 : τ.1 112 38 = I s) (s0 : 0 < s) (s1 : s ≤ 120) (e2 : f_X7_laysBest (I s) (I (-1)) τ = some (0, τ1)) (e3 : τ1.1 102 37 = I 0) : f_X7_beginsRound τ = some (I 0, τ1) := by
  have w38 : Int.toNat 38 = 38 := rfl
  unfold f_X7_beginsRound
  simp (disch := omega) only [↓reduceIte, gd_t, bd_s, nm_W, nm_I, I_add, I_sub, I_mul, I_neg, I_le_t, I_le_f, I_lt_t, I_lt_f, I_eq_t, I_eq_f, I_inb', I_ix', Int.toNat_natCast, decide_true, decide_false, Bool.not_false, Bool.not_true, if_true, if_false, wi_eq, wi_eq', wi_ne, wi_row, wi_2, N0, N1, N2, N3, N4, N5, N6, N7, N8, N9, N10, N11, N12, N13, N14, N15, N16, N17, N18, N19, N20, N21, N22, N23, N24, N25, N26, N27, N28, N29, N30, N31, N32, N33, N34, N35, N36, N37, N38, N39, N40, N41, N42, N43, N45, N48, N57, N59, N88, N89, N97, N99, N120, N121, N122, N179, N200, N255, N300, N400, N880, N900, N999, N1019, N50000000, N100000000, N1000000000, N2147483647, N2147483648, e1, w38, r2, e2, e3]
theorem br_go {τ τ1 : Wd} {s rd P U : Int} {b : Bool} (e1 : f_X7_isUnderWay τ = some (I 0, τ)) (r2 : τ.1 112 38 = I s) (s0 : 0 < s) (s1 : s ≤ 120) (e2 : f_X7_laysBest (I s) (I (-1)) τ = some (0, τ1)) (e3 : τ1.1 102 37 = I U) (U0 : 0 < U) (U1 : U ≤ 120) (r6 : τ1.1 112 42 = I rd) (rd0 : 0 ≤ rd) (rd1 : rd ≤ 2000000)
    (e4 : f_X7_planUnits τ1 = some (I P, τ1)) (P0 : 0 ≤ P) (P1 : P ≤ 1000) (e5 : f_X7_canHavePlan τ1 = some (I (bn b), τ1)) :
    f_X7_beginsRound τ = if (decide (rd = 0 ∧ 0 < P) && b) = true then f_X7_beginsRound_68 FU (I 0) τ1 else f_X7_beginsRound_97 τ1 := by
  have w38 : Int.toNat 38 = 38 := rfl
  have w42 : Int.toNat 42 = 42 := rfl
  by_cases c1 : rd = 0
  · by_cases c2 : 0 < P
    · rw [decide_eq_true (show rd = 0 ∧ 0 < P from ⟨c1, c2⟩), Bool.true_and]
      cases b with
      | false =>
        rw [if_neg (show ¬ false = true by decide)]
        unfold f_X7_beginsRound
        simp (disch := omega) only [↓reduceIte, gd_t, bd_s, nm_W, nm_I, I_add, I_sub, I_mul, I_neg, I_le_t, I_le_f, I_lt_t, I_lt_f, I_eq_t, I_eq_f, I_inb', I_ix', Int.toNat_natCast, decide_true, decide_false, Bool.not_false, Bool.not_true, if_true, if_false, wi_eq, wi_eq', wi_ne, wi_row, wi_2, N0, N1, N2, N3, N4, N5, N6, N7, N8, N9, N10, N11, N12, N13, N14, N15, N16, N17, N18, N19, N20, N21, N22, N23, N24, N25, N26, N27, N28, N29, N30, N31, N32, N33, N34, N35, N36, N37, N38, N39, N40, N41, N42, N43, N45, N48, N57, N59, N88, N89, N97, N99, N120, N121, N122, N179, N200, N255, N300, N400, N880, N900, N999, N1019, N50000000, N100000000, N1000000000, N2147483647, N2147483648, e1, w38, r2, e2, e3, e4, w42, r6, e5, bn_f]
      | true =>
        rw [if_pos rfl]
        unfold f_X7_beginsRound
        simp (disch := omega) only [↓reduceIte, gd_t, bd_s, nm_W, nm_I, I_add, I_sub, I_mul, I_neg, I_le_t, I_le_f, I_lt_t, I_lt_f, I_eq_t, I_eq_f, I_inb', I_ix', Int.toNat_natCast, decide_true, decide_false, Bool.not_false, Bool.not_true, if_true, if_false, wi_eq, wi_eq', wi_ne, wi_row, wi_2, N0, N1, N2, N3, N4, N5, N6, N7, N8, N9, N10, N11, N12, N13, N14, N15, N16, N17, N18, N19, N20, N21, N22, N23, N24, N25, N26, N27, N28, N29, N30, N31, N32, N33, N34, N35, N36, N37, N38, N39, N40, N41, N42, N43, N45, N48, N57, N59, N88, N89, N97, N99, N120, N121, N122, N179, N200, N255, N300, N400, N880, N900, N999, N1019, N50000000, N100000000, N1000000000, N2147483647, N2147483648, e1, w38, r2, e2, e3, e4, w42, r6, e5, bn_t]
    · rw [decide_eq_false (fun q : rd = 0 ∧ 0 < P => c2 q.2), Bool.false_and, if_neg (show ¬ false = true by decide)]
      unfold f_X7_beginsRound
      simp (disch := omega) only [↓reduceIte, gd_t, bd_s, nm_W, nm_I, I_add, I_sub, I_mul, I_neg, I_le_t, I_le_f, I_lt_t, I_lt_f, I_eq_t, I_eq_f, I_inb', I_ix', Int.toNat_natCast, decide_true, decide_false, Bool.not_false, Bool.not_true, if_true, if_false, wi_eq, wi_eq', wi_ne, wi_row, wi_2, N0, N1, N2, N3, N4, N5, N6, N7, N8, N9, N10, N11, N12, N13, N14, N15, N16, N17, N18, N19, N20, N21, N22, N23, N24, N25, N26, N27, N28, N29, N30, N31, N32, N33, N34, N35, N36, N37, N38, N39, N40, N41, N42, N43, N45, N48, N57, N59, N88, N89, N97, N99, N120, N121, N122, N179, N200, N255, N300, N400, N880, N900, N999, N1019, N50000000, N100000000, N1000000000, N2147483647, N2147483648, e1, w38, r2, e2, e3, e4, w42, r6]
  · rw [decide_eq_false (fun q : rd = 0 ∧ 0 < P => c1 q.1), Bool.false_and, if_neg (show ¬ false = true by decide)]
    unfold f_X7_beginsRound
    simp (disch := omega) only [↓reduceIte, gd_t, bd_s, nm_W, nm_I, I_add, I_sub, I_mul, I_neg, I_le_t, I_le_f, I_lt_t, I_lt_f, I_eq_t, I_eq_f, I_inb', I_ix', Int.toNat_natCast, decide_true, decide_false, Bool.not_false, Bool.not_true, if_true, if_false, wi_eq, wi_eq', wi_ne, wi_row, wi_2, N0, N1, N2, N3, N4, N5, N6, N7, N8, N9, N10, N11, N12, N13, N14, N15, N16, N17, N18, N19, N20, N21, N22, N23, N24, N25, N26, N27, N28, N29, N30, N31, N32, N33, N34, N35, N36, N37, N38, N39, N40, N41, N42, N43, N45, N48, N57, N59, N88, N89, N97, N99, N120, N121, N122, N179, N200, N255, N300, N400, N880, N900, N999, N1019, N50000000, N100000000, N1000000000, N2147483647, N2147483648, e1, w38, r2, e2, e3, e4, w42, r6]
theorem br_97 {τ : Wd} {rd : Int} (r6 : τ.1 112 42 = I rd) : f_X7_beginsRound_97 τ = f_X7_beginsRound_112 FU (I 0) (I 0) (wi τ 112 42 (I (rd + 1))) := by
  have w42 : Int.toNat 42 = 42 := rfl
  unfold f_X7_beginsRound_97
  simp (disch := omega) only [↓reduceIte, gd_t, bd_s, nm_W, nm_I, I_add, I_sub, I_mul, I_neg, I_le_t, I_le_f, I_lt_t, I_lt_f, I_eq_t, I_eq_f, I_inb', I_ix', Int.toNat_natCast, decide_true, decide_false, Bool.not_false, Bool.not_true, if_true, if_false, wi_eq, wi_eq', wi_ne, wi_row, wi_2, N0, N1, N2, N3, N4, N5, N6, N7, N8, N9, N10, N11, N12, N13, N14, N15, N16, N17, N18, N19, N20, N21, N22, N23, N24, N25, N26, N27, N28, N29, N30, N31, N32, N33, N34, N35, N36, N37, N38, N39, N40, N41, N42, N43, N45, N48, N57, N59, N88, N89, N97, N99, N120, N121, N122, N179, N200, N255, N300, N400, N880, N900, N999, N1019, N50000000, N100000000, N1000000000, N2147483647, N2147483648, w42, r6]
/-- what a round leaves alone -/
def RF (m r : Nat) (σ τ σ' τ' : Wd) : Prop := ((∀ k, k < 4 ∨ 9 < k → k < r ∨ r + 8 < k → σ'.1 k = σ.1 k) ∧ (∀ i, i ≠ 6 → σ'.1 r i = σ.1 r i) ∧ σ'.2 = σ.2)
  ∧ ((∀ k, k ≠ 102 → k ≠ 112 → k ≠ 116 → k ≠ 117 → τ'.1 k = τ.1 k) ∧ (∀ i, i ≠ 37 → i ≠ 38 → τ'.1 102 i = τ.1 102 i) ∧ τ'.2 = τ.2)
end
section
/-! PURE: a round begins, in step -/
theorem QM_rows {m : Nat} {σ τ σ' τ' : Wd} {V : Nat} {d : MD} {p L W : Int} {dl pl : Nat → Int} (h : QM m σ τ V d p L W dl pl) (c : ∀ k, m ≤ k → k ≤ m + 9 → σ'.1 k = σ.1 k) (e2 : ∀ i, 12 ≤ i → i ≤ 14 → τ'.1 102 i = τ.1 102 i) (e3 : τ'.1 103 = τ.1 103) (e4 : τ'.1 104 = τ.1 104) (e5 : ∀ i, i < 36 ∨ (43 ≤ i ∧ i < 48) → τ'.1 112 i = τ.1 112 i) : QM m σ' τ' V d p L W dl pl :=
  QM_congr h h.1 (CV_rows h.2.1 c) (RV_cells h.2.2.1 h.1.1 (lv6 h.1) (e2 14 (by decide) (by decide)) e3 e4 (fun i hi => e5 i (by omega))) (fun i hi => by rw [c m (by omega) (by omega)]) (c _ (by omega) (by omega)) (c _ (by omega) (by omega)) (e2 12 (by decide) (by decide)) (e2 13 (by decide) (by decide)) e3 (e5 35 (by omega)) (fun v hv => e5 _ (by omega))
theorem QR_rows {r : Nat} {σ τ σ' τ' : Wd} {b : Bool} {t s : Int} (h : QR r σ τ b t s) (c : ∀ i, i < 6 → σ'.1 r i = σ.1 r i) (e : ∀ i, 36 ≤ i → i < 42 → τ'.1 112 i = τ.1 112 i) (e6 : τ'.1 112 42 = σ'.1 r 6) : QR r σ' τ' b t s := by
  obtain ⟨⟨r0, r0'⟩, ⟨r1, r1', t0, t1⟩, ⟨r2, r2', s0, s1⟩, r3, r4, r5, r6⟩ := h
  refine ⟨⟨?_, ?_⟩, ⟨?_, ?_, t0, t1⟩, ⟨?_, ?_, s0, s1⟩, ?_, ?_, ?_, e6⟩
  · rw [c 0 (by decide)]; exact r0
  · rw [e 36 (by decide) (by decide)]; exact r0'
  · rw [c 1 (by decide)]; exact r1
  · rw [e 37 (by decide) (by decide)]; exact r1'
  · rw [c 2 (by decide)]; exact r2
  · rw [e 38 (by decide) (by decide)]; exact r2'
  · rw [c 3 (by decide), e 39 (by decide) (by decide)]; exact r3
  · rw [c 4 (by decide), e 40 (by decide) (by decide)]; exact r4
  · rw [c 5 (by decide), e 41 (by decide) (by decide)]; exact r5
set_option maxHeartbeats 1000000 in
/-- the sending, once the shares stand -/
theorem round_go {m r V : Nat} {d : MD} {σ τ σ1 τ2 : Wd} {p L W : Int} {dl pl : Nat → Int} {b bp : Bool} {t s rd : Int} {h n g sh : Nat → Int} (hm : 10 < m) (hmr : m + 12 < r) (hM : QM m σ τ V d p L W dl pl) (hR : QR r σ τ b t s) (hL : LR (r + 9) σ τ V d) (hP : QPs r σ τ V t h n g) (h0 : ∀ w, w < V → h w = 0)
    (hsh : ∀ w, w < V → 0 ≤ sh w ∧ sh w ≤ 120) (hs : ∀ w, w < V → (if bp then σ1.1 (m + 7) w else σ1.1 5 w) = I (sh w) ∧ τ2.1 117 w = I (sh w)) (hsum : pu sh V 0 ≤ s)
    (c1 : ∀ k, k < 4 ∨ 9 < k → σ1.1 k = σ.1 k) (c2 : σ1.2 = σ.2) (e1 : ∀ k, k ≠ 102 → k ≠ 116 → k ≠ 117 → τ2.1 k = τ.1 k) (e2 : ∀ i, i ≠ 37 → i ≠ 38 → τ2.1 102 i = τ.1 102 i) (e3 : τ2.2 = τ.2) :
    ∃ (σ' τ' : Wd) (h' n' g' : Nat → Int) (c : Int), f_X4_startRound_85 r m FU (I (bn bp)) (I 0) (I 0) (wi σ1 r 6 (I (rd + 1))) = some (I c, σ') ∧ f_X7_beginsRound_112 FU (I 0) (I 0) (wi τ2 112 42 (I (rd + 1))) = some (I c, τ') ∧ QM m σ' τ' V d p L W dl pl ∧ QR r σ' τ' b t s ∧ LR (r + 9) σ' τ' V d ∧ QPs r σ' τ' V t h' n' g' ∧ pu n' V 0 ≤ s ∧ σ'.1 r 6 = I (rd + 1) ∧ RF m r σ τ σ' τ' := by
  have h5 := hM.1.1
  have fσ : ∀ k, k < 4 ∨ 9 < k → k ≠ r → (wi σ1 r 6 (I (rd + 1))).1 k = σ.1 k := fun k g1 g2 => by rw [wi_row g2, c1 k g1]
  have fτ : ∀ k, k ≠ 102 → k ≠ 112 → k ≠ 116 → k ≠ 117 → (wi τ2 112 42 (I (rd + 1))).1 k = τ.1 k := fun k g1 g2 g3 g4 => by rw [wi_row g2, e1 k g1 g3 g4]
  have f2 : ∀ i, i ≠ 37 → i ≠ 38 → (wi τ2 112 42 (I (rd + 1))).1 102 i = τ.1 102 i := fun i g1 g2 => by rw [wi_row (by decide), e2 i g1 g2]
  have fx : ∀ i, i ≠ 42 → (wi τ2 112 42 (I (rd + 1))).1 112 i = τ.1 112 i := fun i g1 => by rw [wi_ne g1, e1 112 (by decide) (by decide) (by decide)]
  obtain ⟨σ', τ', h', n', g', c, q1, q2, q3, q4, q5, q6, q7, q8, q9, q10, q11, q12⟩ := sends_ok (m := m) (r := r) (V := V) (d := d) (p := p) (L := L) (W := W) (dl := dl) (pl := pl) (b := b) (bp := bp) (t := t) (s := s) (sh := sh) hm hmr hsh V 0 FU FU 0 0 h n g (wi σ1 r 6 (I (rd + 1))) (wi τ2 112 42 (I (rd + 1))) rfl (by omega) (by show _ < 6000; omega) (by show _ < 6000; omega)
    (QM_rows hM (fun k g1 g2 => fσ k (by omega) (by omega)) (fun i g1 g2 => f2 i (by omega) (by omega)) (fτ 103 (by decide) (by decide) (by decide) (by decide)) (fτ 104 (by decide) (by decide) (by decide) (by decide)) (fun i hi => fx i (by omega)))
    (QR_rows hR (fun i hi => by rw [wi_ne (by omega), c1 r (by omega)]) (fun i g1 g2 => fx i (by omega)) (by rw [wi_eq, wi_eq]))
    (LR_congr hL rfl rfl (fun k g1 g2 => fσ k (by omega) (by omega)) (fun i hi => fx i (by omega)))
    (fun w hw => QP_congr (hP w hw) (fun k g1 g2 => by rw [fσ k (by omega) (by omega)]) (fun i g1 g2 => fx i (by omega)) (fτ 103 (by decide) (by decide) (by decide) (by decide)))
    (fun w _ hw => h0 w hw)
    (fun w hw => by rw [wi_row (show m + 7 ≠ r by omega), wi_row (show 5 ≠ r by omega), wi_row (show 117 ≠ 112 by decide)]; exact hs w hw)
  refine ⟨σ', τ', h', n', g', c, q1, q2, q3, q4, q5, q6, ?_, ?_, ⟨⟨fun k g1 g2 => ?_, fun i hi => ?_, ?_⟩, ⟨fun k g1 g2 g3 g4 => ?_, fun i g1 g2 => ?_, ?_⟩⟩⟩
  · rw [pu_congr (g := sh) V 0 (fun w g1 g2 => q8 w g1 (by omega))]
    exact hsum
  · rw [q9 r (by omega), wi_eq]
  · rw [q9 k (by omega), fσ k g1 (by omega)]
  · rw [q9 r (by omega), wi_ne hi, c1 r (by omega)]
  · rw [q10, wi_2, c2]
  · rw [q11 k g2, fτ k g1 g2 g3 g4]
  · rw [q11 102 (by decide), f2 i g1 g2]
  · rw [q12, wi_2, e3]
theorem RF_refl {m r : Nat} {σ τ : Wd} : RF m r σ τ σ τ := ⟨⟨fun _ _ _ => rfl, fun _ _ => rfl, rfl⟩, ⟨fun _ _ _ _ _ => rfl, fun _ _ _ => rfl, rfl⟩⟩
set_option maxHeartbeats 1000000 in
theorem round_ok {m r V : Nat} {d : MD} {σ τ : Wd} {p L W : Int} {dl pl : Nat → Int} {b : Bool} {t s rd : Int} {h n g : Nat → Int} (hm : 10 < m) (hmr : m + 12 < r) (hM : QM m σ τ V d p L W dl pl) (hR : QR r σ τ b t s) (hL : LR (r + 9) σ τ V d) (hP : QPs r σ τ V t h n g) (hsum : pu n V 0 ≤ s)
    (r6 : σ.1 r 6 = I rd) (rd0 : 0 ≤ rd) (rd1 : rd ≤ 1000001) (hW : rd = 0 → s = W) :
    ∃ (σ' τ' : Wd) (h' n' g' : Nat → Int) (c rd' : Int), f_X4_startRound r m σ = some (I c, σ') ∧ f_X7_beginsRound τ = some (I c, τ') ∧ QM m σ' τ' V d p L W dl pl ∧ QR r σ' τ' b t s ∧ LR (r + 9) σ' τ' V d ∧ QPs r σ' τ' V t h' n' g' ∧ pu n' V 0 ≤ s ∧ σ'.1 r 6 = I rd' ∧ ((rd' = rd ∧ h' = h) ∨ rd' = rd + 1) ∧ RF m r σ τ σ' τ' := by
  have h5 := hM.1.1
  have hd := hM.1
  have hp : R p := by have := hM.2.2.2.1; unfold R; omega
  have s0 := hR.2.2.1.2.2.1
  have s1 := hR.2.2.1.2.2.2
  have eu := c_nu (b := r) (σ := σ) hM.2.1.1 h5 V 0 FU 0 rfl (by omega) (by show _ < 6000; omega)
  have eu : f_X4_nothingUnderWay r m σ = some (I (bn (nu (σ.1 (r + 1)) V 0)), σ) := eu
  have ru := r_nu (τ := τ) (f := σ.1 (r + 1)) hM.2.2.1.1 h5 (fun v hv => by rw [(hP v hv).1.1, (hP v hv).1.2]) V 0 FU 0 rfl (by omega) (by show _ < 6000; omega)
  have ru : f_X7_isUnderWay τ = some (I (bn (!nu (σ.1 (r + 1)) V 0)), τ) := ru
  by_cases cx : nu (σ.1 (r + 1)) V 0 = false ∨ s = 0
  · exact ⟨σ, τ, h, n, g, 0, rd, sr_no h5 eu cx hR.2.2.1.1, br_no ru cx hR.2.2.1.2.1, hM, hR, hL, hP, hsum, r6, Or.inl ⟨rfl, rfl⟩, RF_refl⟩
  · have ex : nu (σ.1 (r + 1)) V 0 = true := by
      cases e : nu (σ.1 (r + 1)) V 0 with
      | true => rfl
      | false => exact absurd (Or.inl e) cx
    have sp : 0 < s := by omega
    rw [ex] at eu ru
    have eu : f_X4_nothingUnderWay r m σ = some (I 1, σ) := eu
    have ru : f_X7_isUnderWay τ = some (I 0, τ) := ru
    have h0 : ∀ w, w < V → h w = 0 := by
      intro w hw
      have a := nu_all V 0 ex w (by omega) (by omega)
      have q := (hP w hw).2.2.2.2.2.2.2.2
      rw [(hP w hw).1.1, show (0 : Int32) = I 0 from rfl, I_eq (by unfold R; omega) (by unfold R; omega)] at a
      exact a
    obtain ⟨q, hq⟩ := Int.eq_ofNat_of_zero_le s0
    have q120 : q ≤ 120 := by omega
    have hb : R (-1) := by unfold R; omega
    obtain ⟨τ1, b1, b2, b3, b4, b5, b6, b7⟩ := rBest (q := q) hd hp hb q120 hM.2.2.1 hM.2.2.2.1.2.1
    have eh := cHas (q := q) hM.2.1 hd hp hM.2.2.2.1.1 q120
    rw [← hq] at b1 eh
    have ub := bu_le (f := lcs d p (-1) V V) q
    have un : lcs d p (-1) V V (bu (lcs d p (-1) V V) q) ≠ none := bu_some (by rw [lcs_0]; exact fun h => by cases h) q
    by_cases cu : 0 < bu (lcs d p (-1) V V) q
    · rw [decide_eq_true cu] at eh
      have eh : f_X3_hasLotWithin m (I s) σ = some (I 1, σ) := eh
      have pb : PB pl V := fun v hv => (hM.2.2.2.2.2.2.2 v hv).2.2
      have pub := pu_bnd pb V 0 (by omega)
      have e3 := cPU hM.2.1.1 h5 (fun v hv => (hM.2.2.2.2.2.2.2 v hv).1)
      have hwR : R W := by have := hM.2.2.2.2.2.1; unfold R; omega
      have e4 := cPS hM.2.1 hd hp hM.2.2.2.1.1 hM.2.2.2.2.2.1.1 hwR pb (fun v hv => (hM.2.2.2.2.2.2.2 v hv).1)
      have x112 : τ1.1 112 = τ.1 112 := b5 112 (by decide) (by decide) (by decide)
      have hr1 : RV τ1 V d := RV_congr hM.2.2.1 (b6 14 (by decide) (by decide)) (b5 103 (by decide) (by decide) (by decide)) (b5 104 (by decide) (by decide) (by decide)) x112
      have e5 := rPU hr1.1 h5 (fun v hv => by rw [x112]; exact (hM.2.2.2.2.2.2.2 v hv).2.1)
      have e6 := rPS hr1 hd hp (by rw [b6 12 (by decide) (by decide)]; exact hM.2.2.2.1.2.1) (by rw [x112]; exact hM.2.2.2.2.2.1.2.1) hwR pb (fun v hv => by rw [x112]; exact (hM.2.2.2.2.2.2.2 v hv).2.1)
      have r42 : τ1.1 112 42 = I rd := by rw [x112, hR.2.2.2.2.2.2, r6]
      have g1 := sr_go eu hR.2.2.1.1 sp s1 eh r6 rd0 (by omega) e3 pub.1 (by omega) e4
      have g2 := br_go ru hR.2.2.1.2.1 sp s1 b1 b2 (by omega) (by omega) r42 rd0 (by omega) e5 pub.1 (by omega) e6
      cases hbp : (decide (rd = 0 ∧ 0 < pu pl V 0) && ps d p W pl V V 0) with
      | true =>
        rw [hbp] at g1 g2
        rw [if_pos rfl] at g2
        obtain ⟨hb1, hb2⟩ := Bool.and_eq_true_iff.mp hbp
        have hrd := (of_decide_eq_true hb1).1
        obtain ⟨τ2, t1, t2, t3, t4⟩ := r_pl (pl := pl) h5 V 0 FU 0 τ1 rfl (by omega) (by show _ < 6000; omega) hr1.1 (fun v hv => by rw [x112]; exact (hM.2.2.2.2.2.2.2 v hv).2.1) (fun w hw => absurd hw (by omega))
        obtain ⟨σ', τ', h', n', g', c, q1, q2, q3⟩ := round_go (σ1 := σ) (τ2 := τ2) (bp := true) (rd := rd) (sh := pl) hm hmr hM hR hL hP h0 pb (fun w hw => ⟨by rw [if_pos rfl]; exact (hM.2.2.2.2.2.2.2 w hw).1, t2 w hw⟩) (by have := ps_pu V 0 hb2; have := hW hrd; omega) (fun _ _ => rfl) rfl
          (fun k g1 g2 g3 => by rw [t3 k g3, b5 k g1 g2 g3]) (fun i g1 g2 => by rw [t3 102 (by decide), b6 i g1 g2]) (by rw [t4, b7])
        refine ⟨σ', τ', h', n', g', c, rd + 1, ?_, ?_, q3.1, q3.2.1, q3.2.2.1, q3.2.2.2.1, q3.2.2.2.2.1, q3.2.2.2.2.2.1, Or.inr rfl, q3.2.2.2.2.2.2⟩
        · rw [g1, sr_54 (σ1 := σ) hR.2.2.1.1 r6 (fun e => by cases e) (fun _ => rfl), q1]
        · rw [g2, t1, br_97 (rd := rd) (by rw [t3 112 (by decide)]; exact r42), q2]
      | false =>
        rw [hbp] at g1 g2
        rw [if_neg (show ¬ false = true by decide)] at g2
        obtain ⟨σ1, a1, a2, a3, a4, a5, a6⟩ := cChoose (q := q) hm hd hp hb q120 hM.2.1 hM.2.2.2.1.1
        rw [← hq] at a1
        have ss := shs_sum (p := p) (but := -1) hd V _ (Nat.le_refl _) un
        rw [Nat.sub_self] at ss
        obtain ⟨σ', τ', h', n', g', c, q1, q2, q3⟩ := round_go (σ1 := σ1) (τ2 := τ1) (bp := false) (rd := rd) (sh := fun v => (shs d p (-1) V V (bu (lcs d p (-1) V V) q) v : Int)) hm hmr hM hR hL hP h0
          (fun w hw => by
            have := (pu_ge (f := fun v => (shs d p (-1) V V (bu (lcs d p (-1) V V) q) v : Int)) (w := w) V 0 (fun _ _ _ => by show (0 : Int) ≤ ((_ : Nat) : Int); omega) (by omega) (by omega)).1
            rw [ss] at this
            have this : ((shs d p (-1) V V (bu (lcs d p (-1) V V) q) w : Nat) : Int) ≤ _ := this
            exact ⟨by show (0 : Int) ≤ ((_ : Nat) : Int); omega, by show ((shs d p (-1) V V (bu (lcs d p (-1) V V) q) w : Nat) : Int) ≤ 120; omega⟩)
          (fun w hw => ⟨by rw [if_neg (show ¬ false = true by decide)]; exact a4 w hw, b4 w hw⟩) (by rw [ss]; omega) a5 a6 b5 b6 b7
        refine ⟨σ', τ', h', n', g', c, rd + 1, ?_, ?_, q3.1, q3.2.1, q3.2.2.1, q3.2.2.2.1, q3.2.2.2.2.1, q3.2.2.2.2.2.1, Or.inr rfl, q3.2.2.2.2.2.2⟩
        · rw [g1, sr_54 (σ1 := σ1) hR.2.2.1.1 (by rw [a5 r (by omega)]; exact r6) (fun _ => a1) (fun e => by cases e), q1]
        · rw [g2, br_97 r42, q2]
    · rw [decide_eq_false cu] at eh
      have eh : f_X3_hasLotWithin m (I s) σ = some (I 0, σ) := eh
      have u0 : bu (lcs d p (-1) V V) q = 0 := by omega
      rw [u0] at b2
      have x112 : τ1.1 112 = τ.1 112 := b5 112 (by decide) (by decide) (by decide)
      refine ⟨σ, τ1, h, n, g, 0, rd, sr_nolot eu hR.2.2.1.1 sp s1 eh, br_nolot ru hR.2.2.1.2.1 sp s1 b1 b2, ?_, ?_, ?_, ?_, hsum, r6, Or.inl ⟨rfl, rfl⟩, ⟨⟨fun _ _ _ => rfl, fun _ _ => rfl, rfl⟩, ⟨fun k g1 g2 g3 g4 => b5 k g1 g3 g4, b6, b7⟩⟩⟩
      · exact QM_rows hM (fun _ _ _ => rfl) (fun i g1 g2 => b6 i (by omega) (by omega)) (b5 103 (by decide) (by decide) (by decide)) (b5 104 (by decide) (by decide) (by decide)) (fun i _ => by rw [x112])
      · exact QR_rows hR (fun _ _ => rfl) (fun i _ _ => by rw [x112]) (by rw [x112]; exact hR.2.2.2.2.2.2)
      · exact LR_congr hL rfl rfl (fun _ _ _ => rfl) (fun i _ => by rw [x112])
      · exact fun w hw => QP_congr (hP w hw) (fun _ _ _ => rfl) (fun i _ _ => by rw [x112]) (b5 103 (by decide) (by decide) (by decide))
end
section
/-! PURE: events of a tick -/
theorem et_mono {E : Nat} {et : Nat → Int} (hs : ∀ i, i + 1 < E → et i ≤ et (i + 1)) : ∀ (k i : Nat), i + k < E → et i ≤ et (i + k)
  | 0, _, _ => Int.le_refl _
  | k + 1, i, h => by
    have := et_mono hs k i (by omega)
    have := hs (i + k) (by omega)
    rw [show i + (k + 1) = i + k + 1 from rfl]
    omega
theorem ev_hit {i k V a b : Nat} {τ : Wd} {E T : Nat} {z : Int} {tt : Int} (hE : E ≤ 10) (hi : i < E) (h15 : τ.1 102 15 = I (E : Int)) (h37 : τ.1 112 37 = I tt) (e0 : τ.1 105 (4 * i) = I tt) (e1 : τ.1 105 (4 * i + 1) = I (a : Int)) (e2 : τ.1 105 (4 * i + 2) = I (b : Int)) (e3 : τ.1 105 (4 * i + 3) = I z) (ha : 6 * a + b < 30) :
    f_X7_tick_13 (k + 1) (I (i : Int)) τ = f_X7_tick_13 k (I ((i : Int) + 1)) (wi τ 112 (6 * a + b) (I z)) := by
  have w0 : ((4 : Int) * (i : Int)).toNat = 4 * i := by omega
  have w1 : ((4 : Int) * (i : Int) + 1).toNat = 4 * i + 1 := by omega
  have w2 : ((4 : Int) * (i : Int) + 2).toNat = 4 * i + 2 := by omega
  have w3 : ((4 : Int) * (i : Int) + 3).toNat = 4 * i + 3 := by omega
  have w4 : ((0 : Int) + 6 * (a : Int) + (b : Int)).toNat = 6 * a + b := by omega
  have w37 : Int.toNat 37 = 37 := rfl
  rw [f_X7_tick_13]
  simp (disch := omega) only [↓reduceIte, gd_t, bd_s, nm_W, nm_I, I_add, I_sub, I_mul, I_neg, I_le_t, I_le_f, I_lt_t, I_lt_f, I_eq_t, I_eq_f, I_inb', I_ix', Int.toNat_natCast, decide_true, decide_false, Bool.not_false, Bool.not_true, if_true, if_false, wi_eq, wi_eq', wi_ne, wi_row, wi_2, N0, N1, N2, N3, N4, N5, N6, N7, N8, N9, N10, N11, N12, N13, N14, N15, N16, N17, N18, N19, N20, N21, N22, N23, N24, N25, N26, N27, N28, N29, N30, N31, N32, N33, N34, N35, N36, N37, N38, N39, N40, N41, N42, N43, N45, N48, N57, N59, N88, N89, N97, N99, N120, N121, N122, N179, N200, N255, N300, N400, N880, N900, N999, N1019, N50000000, N100000000, N1000000000, N2147483647, N2147483648, h15, w0, w37, h37, e0, w1, w2, w3, e1, e2, e3, w4, f_X7_tick_80]
theorem ev_miss {i k : Nat} {τ : Wd} {E : Nat} {tt e : Int} (hE : E ≤ 10) (hi : i < E) (h15 : τ.1 102 15 = I (E : Int)) (h37 : τ.1 112 37 = I tt) (t0 : 0 ≤ tt) (t1 : tt ≤ 2000000) (e0 : τ.1 105 (4 * i) = I e) (b0 : 1 ≤ e) (b1 : e ≤ 200) (hn : e ≠ tt) :
    f_X7_tick_13 (k + 1) (I (i : Int)) τ = f_X7_tick_13 k (I ((i : Int) + 1)) τ := by
  have w0 : ((4 : Int) * (i : Int)).toNat = 4 * i := by omega
  have w37 : Int.toNat 37 = 37 := rfl
  rw [f_X7_tick_13]
  simp (disch := omega) only [↓reduceIte, gd_t, bd_s, nm_W, nm_I, I_add, I_sub, I_mul, I_neg, I_le_t, I_le_f, I_lt_t, I_lt_f, I_eq_t, I_eq_f, I_inb', I_ix', Int.toNat_natCast, decide_true, decide_false, Bool.not_false, Bool.not_true, if_true, if_false, wi_eq, wi_eq', wi_ne, wi_row, wi_2, N0, N1, N2, N3, N4, N5, N6, N7, N8, N9, N10, N11, N12, N13, N14, N15, N16, N17, N18, N19, N20, N21, N22, N23, N24, N25, N26, N27, N28, N29, N30, N31, N32, N33, N34, N35, N36, N37, N38, N39, N40, N41, N42, N43, N45, N48, N57, N59, N88, N89, N97, N99, N120, N121, N122, N179, N200, N255, N300, N400, N880, N900, N999, N1019, N50000000, N100000000, N1000000000, N2147483647, N2147483648, h15, w0, w37, h37, e0, f_X7_tick_80]
theorem ev_end {k : Nat} {τ : Wd} {E : Nat} {z : Int} (hE : E ≤ 10) (h15 : τ.1 102 15 = I (E : Int)) (hz : z = (E : Int)) : f_X7_tick_13 (k + 1) (I z) τ = f_X7_tick_90 FU (I 0) (I 0) τ := by
  rw [f_X7_tick_13]
  simp (disch := omega) only [↓reduceIte, gd_t, bd_s, nm_W, nm_I, I_add, I_sub, I_mul, I_neg, I_le_t, I_le_f, I_lt_t, I_lt_f, I_eq_t, I_eq_f, I_inb', I_ix', Int.toNat_natCast, decide_true, decide_false, Bool.not_false, Bool.not_true, if_true, if_false, wi_eq, wi_eq', wi_ne, wi_row, wi_2, N0, N1, N2, N3, N4, N5, N6, N7, N8, N9, N10, N11, N12, N13, N14, N15, N16, N17, N18, N19, N20, N21, N22, N23, N24, N25, N26, N27, N28, N29, N30, N31, N32, N33, N34, N35, N36, N37, N38, N39, N40, N41, N42, N43, N45, N48, N57, N59, N88, N89, N97, N99, N120, N121, N122, N179, N200, N255, N300, N400, N880, N900, N999, N1019, N50000000, N100000000, N1000000000, N2147483647, N2147483648, h15]
theorem ev_rest {m V E : Nat} {σ τ : Wd} {lv : Nat → Nat} {et : Nat → Int} {tt : Int} (hQ : QE m σ τ V E lv et) (h37 : τ.1 112 37 = I tt) (t0 : 0 ≤ tt) (t1 : tt ≤ 2000000) : ∀ (rr i k : Nat) (z : Int), z = (i : Int) → i + rr = E → rr < k → (∀ j, i ≤ j → j < E → et j ≠ tt) → f_X7_tick_13 k (I z) τ = f_X7_tick_90 FU (I 0) (I 0) τ
  | 0, i, k + 1, z, hz, hi, _, _ => ev_end hQ.1 hQ.2.2.1 (by omega)
  | rr + 1, i, k + 1, z, hz, hi, hk, hn => by
    subst hz
    obtain ⟨a, b, z, h1, h2, h3, h4, h5, h6, h7, h8, h9⟩ := hQ.2.2.2.1 i (by omega)
    rw [ev_miss hQ.1 (by omega) hQ.2.2.1 h37 t0 t1 h8 h5 h6 (hn i (Nat.le_refl _) (by omega))]
    exact ev_rest hQ h37 t0 t1 rr (i + 1) k _ (by omega) (by omega) (by omega) (fun j g1 g2 => hn j (by omega) g2)
theorem ev_pre {m V E : Nat} {σ τ : Wd} {lv : Nat → Nat} {et : Nat → Int} {tt : Int} (hQ : QE m σ τ V E lv et) (h37 : τ.1 112 37 = I tt) (t0 : 0 ≤ tt) (t1 : tt ≤ 2000000) : ∀ (rr i k : Nat) (z : Int), z = (i : Int) → i + rr ≤ E → (∀ j, i ≤ j → j < i + rr → et j ≠ tt) → f_X7_tick_13 (k + rr) (I z) τ = f_X7_tick_13 k (I ((i + rr : Nat) : Int)) τ
  | 0, i, k, z, hz, hi, _ => by rw [hz]; rfl
  | rr + 1, i, k, z, hz, hi, hn => by
    subst hz
    obtain ⟨a, b, z, h1, h2, h3, h4, h5, h6, h7, h8, h9⟩ := hQ.2.2.2.1 i (by omega)
    rw [show k + (rr + 1) = (k + rr) + 1 from rfl, ev_miss hQ.1 (by omega) hQ.2.2.1 h37 t0 t1 h8 h5 h6 (hn i (Nat.le_refl _) (by omega)), ev_pre hQ h37 t0 t1 rr (i + 1) k _ (by omega) (by omega) (fun j g1 g2 => hn j (by omega) (by omega))]
    congr 2
    omega
theorem cv_hit {m r k i E : Nat} {σ : Wd} {tt z : Int} {sl : Nat} (hmr : m + 12 < r) (hE : E ≤ 10) (hi : i < E) (h4 : σ.1 m 4 = I (E : Int)) (h7 : σ.1 r 7 = I (i : Int)) (h1 : σ.1 r 1 = I tt) (e0 : σ.1 (m + 10) i = I tt) (e1 : σ.1 (m + 11) i = I (sl : Int)) (e2 : σ.1 (m + 12) i = I z) (hs : sl < 30) (t0 : 0 ≤ tt) (t1 : tt ≤ 2000000) :
    f_X4_tick_10 r m (k + 1) σ = f_X4_tick_10 r m k (wi (wi σ (m + 9) sl (I z)) r 7 (I ((i : Int) + 1))) := by
  rw [f_X4_tick_10]
  simp (disch := omega) only [↓reduceIte, gd_t, bd_s, nm_W, nm_I, I_add, I_sub, I_mul, I_neg, I_le_t, I_le_f, I_lt_t, I_lt_f, I_eq_t, I_eq_f, I_inb', I_ix', Int.toNat_natCast, decide_true, decide_false, Bool.not_false, Bool.not_true, if_true, if_false, wi_eq, wi_eq', wi_ne, wi_row, wi_2, N0, N1, N2, N3, N4, N5, N6, N7, N8, N9, N10, N11, N12, N13, N14, N15, N16, N17, N18, N19, N20, N21, N22, N23, N24, N25, N26, N27, N28, N29, N30, N31, N32, N33, N34, N35, N36, N37, N38, N39, N40, N41, N42, N43, N45, N48, N57, N59, N88, N89, N97, N99, N120, N121, N122, N179, N200, N255, N300, N400, N880, N900, N999, N1019, N50000000, N100000000, N1000000000, N2147483647, N2147483648, h4, h7, h1, e0, e1, e2]
theorem cv_stop {m r k i E : Nat} {σ : Wd} {tt e : Int} (hE : E ≤ 10) (hi : i < E) (h4 : σ.1 m 4 = I (E : Int)) (h7 : σ.1 r 7 = I (i : Int)) (h1 : σ.1 r 1 = I tt) (e0 : σ.1 (m + 10) i = I e) (t0 : 0 ≤ tt) (te : tt < e) (e1 : e ≤ 200) : f_X4_tick_10 r m (k + 1) σ = f_X4_tick_73 r m σ := by
  rw [f_X4_tick_10]
  simp (disch := omega) only [↓reduceIte, gd_t, bd_s, nm_W, nm_I, I_add, I_sub, I_mul, I_neg, I_le_t, I_le_f, I_lt_t, I_lt_f, I_eq_t, I_eq_f, I_inb', I_ix', Int.toNat_natCast, decide_true, decide_false, Bool.not_false, Bool.not_true, if_true, if_false, wi_eq, wi_eq', wi_ne, wi_row, wi_2, N0, N1, N2, N3, N4, N5, N6, N7, N8, N9, N10, N11, N12, N13, N14, N15, N16, N17, N18, N19, N20, N21, N22, N23, N24, N25, N26, N27, N28, N29, N30, N31, N32, N33, N34, N35, N36, N37, N38, N39, N40, N41, N42, N43, N45, N48, N57, N59, N88, N89, N97, N99, N120, N121, N122, N179, N200, N255, N300, N400, N880, N900, N999, N1019, N50000000, N100000000, N1000000000, N2147483647, N2147483648, h4, h7, h1, e0]
theorem cv_end {m r k E : Nat} {σ : Wd} (hE : E ≤ 10) (h4 : σ.1 m 4 = I (E : Int)) (h7 : σ.1 r 7 = I (E : Int)) : f_X4_tick_10 r m (k + 1) σ = f_X4_tick_73 r m σ := by
  rw [f_X4_tick_10]
  simp (disch := omega) only [↓reduceIte, gd_t, bd_s, nm_W, nm_I, I_add, I_sub, I_mul, I_neg, I_le_t, I_le_f, I_lt_t, I_lt_f, I_eq_t, I_eq_f, I_inb', I_ix', Int.toNat_natCast, decide_true, decide_false, Bool.not_false, Bool.not_true, if_true, if_false, wi_eq, wi_eq', wi_ne, wi_row, wi_2, N0, N1, N2, N3, N4, N5, N6, N7, N8, N9, N10, N11, N12, N13, N14, N15, N16, N17, N18, N19, N20, N21, N22, N23, N24, N25, N26, N27, N28, N29, N30, N31, N32, N33, N34, N35, N36, N37, N38, N39, N40, N41, N42, N43, N45, N48, N57, N59, N88, N89, N97, N99, N120, N121, N122, N179, N200, N255, N300, N400, N880, N900, N999, N1019, N50000000, N100000000, N1000000000, N2147483647, N2147483648, h4, h7]
set_option maxHeartbeats 1000000 in
theorem ev_ok {m r V E : Nat} {p L W : Int} {dl pl et : Nat → Int} {tt : Int} (hm : 10 < m) (hmr : m + 12 < r) (t0 : 0 ≤ tt) (t1 : tt ≤ 1000000) :
    ∀ (rr i n1 k2 : Nat) (d : MD) (σ τ : Wd), i + rr = E → rr < n1 → rr < k2 → QM m σ τ V d p L W dl pl → QE m σ τ V E d.lv et → LR (r + 9) σ τ V d → σ.1 r 1 = I tt → τ.1 112 37 = I tt → σ.1 r 7 = I (i : Int) → (∀ j, i ≤ j → j < E → tt ≤ et j) →
      ∃ (σ' τ' : Wd) (d' : MD) (np : Nat), f_X4_tick_10 r m n1 σ = f_X4_tick_73 r m σ' ∧ f_X7_tick_13 k2 (I (i : Int)) τ = f_X7_tick_90 FU (I 0) (I 0) τ' ∧ QM m σ' τ' V d' p L W dl pl ∧ LR (r + 9) σ' τ' V d' ∧ (d'.1 = d.1 ∧ d'.lv = d.lv ∧ d'.pr = d.pr) ∧ σ'.1 r 7 = I (np : Int) ∧ i ≤ np ∧ np ≤ E ∧ (∀ j, i ≤ j → j < np → et j ≤ tt) ∧ (∀ j, np ≤ j → j < E → tt < et j)
        ∧ ((∀ k, k ≠ m + 9 → k ≠ r → σ'.1 k = σ.1 k) ∧ (∀ i, i ≠ 7 → σ'.1 r i = σ.1 r i) ∧ σ'.2 = σ.2) ∧ ((∀ k, k ≠ 112 → τ'.1 k = τ.1 k) ∧ (∀ i, 30 ≤ i → τ'.1 112 i = τ.1 112 i) ∧ τ'.2 = τ.2)
  | 0, i, n1 + 1, k2 + 1, d, σ, τ, hi, _, _, hM, hQ, hL, s1, t37, s7, hj => by
    have hi : i = E := by omega
    subst hi
    exact ⟨σ, τ, d, i, cv_end hQ.1 hQ.2.1 s7, ev_end hQ.1 hQ.2.2.1 rfl, hM, hL, ⟨rfl, rfl, rfl⟩, s7, Nat.le_refl _, Nat.le_refl _, fun j g1 g2 => absurd g2 (by omega), fun j g1 g2 => absurd g2 (by omega), ⟨fun _ _ _ => rfl, fun _ _ => rfl, rfl⟩, ⟨fun _ _ => rfl, fun _ _ => rfl, rfl⟩⟩
  | rr + 1, i, n1 + 1, k2 + 1, d, σ, τ, hi, hn1, hk2, hM, hQ, hL, s1, t37, s7, hj => by
    obtain ⟨a, b, z, h1, h2, h3, h4, h5, h6, h7, h8, h9, h10, h11, h12, h13⟩ := hQ.2.2.2.1 i (by omega)
    have h56 := lv6 hM.1 a h1
    have hV := hM.1.1
    by_cases c : et i = tt
    · obtain ⟨σ1, hσ1⟩ : ∃ s, s = wi (wi σ (m + 9) (6 * a + b) (I z)) r 7 (I ((i + 1 : Nat) : Int)) := ⟨_, rfl⟩
      obtain ⟨τ1, hτ1⟩ : ∃ s, s = wi τ 112 (6 * a + b) (I z) := ⟨_, rfl⟩
      have fc : ∀ k, k ≠ m + 9 → k ≠ r → σ1.1 k = σ.1 k := fun k g1 g2 => by rw [hσ1, wi_row g2, wi_row g1]
      have fi : ∀ i, i ≠ 7 → σ1.1 r i = σ.1 r i := fun i g => by rw [hσ1, wi_ne g, wi_row (by omega)]
      have fk : ∀ k, k ≠ 112 → τ1.1 k = τ.1 k := fun k g => by rw [hτ1, wi_row g]
      have ft : ∀ i, 30 ≤ i → τ1.1 112 i = τ.1 112 i := fun i g => by rw [hτ1, wi_ne (by omega)]
      have cv1 : CV m σ1 V (dz d (6 * a + b) z) := CV_rows (CV_dz (i := 6 * a + b) (x := z) hM.2.1) (fun k g1 g2 => by rw [hσ1, wi_row (by omega)])
      have rv1 : RV τ1 V (dz d (6 * a + b) z) := by rw [hτ1]; exact RV_dz hM.2.2.1 (by omega)
      have M1 : QM m σ1 τ1 V (dz d (6 * a + b) z) p L W dl pl := QM_congr hM (MDok_dz hM.1 h3 h4) cv1 rv1 (fun i hi => by rw [fc m (by omega) (by omega)]) (fc _ (by omega) (by omega)) (fc _ (by omega) (by omega)) (by rw [fk 102 (by decide)]) (by rw [fk 102 (by decide)]) (fk 103 (by decide)) (ft 35 (by omega)) (fun v hv => ft _ (by omega))
      have E1 : QE m σ1 τ1 V E (dz d (6 * a + b) z).lv et := QE_congr hQ (by rw [fc m (by omega) (by omega)]) (fc _ (by omega) (by omega)) (fc _ (by omega) (by omega)) (fc _ (by omega) (by omega)) (by rw [fk 102 (by decide)]) (fk 105 (by decide))
      obtain ⟨σ', τ', d', np, q1, q2, q3, q4, q5, q6, q7, q8, q9, q10, ⟨f1, f2, f3⟩, ⟨f4, f5, f6⟩⟩ := ev_ok hm hmr t0 t1 rr (i + 1) n1 k2 (dz d (6 * a + b) z) σ1 τ1 (by omega) (by omega) (by omega) M1 E1 (LR_congr hL rfl rfl (fun k g1 g2 => fc k (by omega) (by omega)) (fun i hi => ft i (by omega)))
        (by rw [fi 1 (by decide)]; exact s1) (by rw [ft 37 (by omega)]; exact t37) (by rw [hσ1, wi_eq]) (fun j g1 g2 => hj j (by omega) g2)
      refine ⟨σ', τ', d', np, ?_, ?_, q3, q4, q5, q6, by omega, q8, fun j g1 g2 => ?_, q10, ⟨fun k g1 g2 => by rw [f1 k g1 g2, fc k g1 g2], fun i g => by rw [f2 i g, fi i g], by rw [f3, hσ1, wi_2, wi_2]⟩, ⟨fun k g => by rw [f4 k g, fk k g], fun i g => by rw [f5 i g, ft i g], by rw [f6, hτ1, wi_2]⟩⟩
      · rw [← q1, hσ1]
        exact cv_hit hmr hQ.1 (by omega) hQ.2.1 s7 s1 (by rw [← c]; exact h7) h9 h12 (by omega) t0 (by omega)
      · rw [← q2, hτ1]
        exact ev_hit (V := V) (T := 0) hQ.1 (by omega) hQ.2.2.1 t37 (by rw [← c]; exact h8) h10 h11 h13 (by omega)
      · by_cases e : j = i
        · rw [e]; omega
        · exact q9 j (by omega) g2
    · have lt : tt < et i := by have := hj i (Nat.le_refl _) (by omega); omega
      have all : ∀ j, i ≤ j → j < E → tt < et j := fun j g1 g2 => by
        have := et_mono hQ.2.2.2.2 (j - i) i (by omega)
        rw [show i + (j - i) = j from by omega] at this
        omega
      exact ⟨σ, τ, d, i, cv_stop hQ.1 (by omega) hQ.2.1 s7 s1 h7 t0 lt h6, ev_rest hQ t37 t0 (by omega) (rr + 1) i (k2 + 1) _ rfl hi hk2 (fun j g1 g2 => by have := all j g1 g2; omega), hM, hL, ⟨rfl, rfl, rfl⟩, s7, Nat.le_refl _, by omega, fun j g1 g2 => absurd g2 (by omega), all, ⟨fun _ _ _ => rfl, fun _ _ => rfl, rfl⟩, ⟨fun _ _ => rfl, fun _ _ => rfl, rfl⟩⟩
end
section
/-! PURE: a tick, in step -/
theorem pu_upd {n : Nat → Int} {v : Nat} {x : Int} : ∀ (r u : Nat), u ≤ v → v < u + r → pu (fun w => if w = v then x else n w) r u = pu n r u - n v + x
  | 0, u, h1, h2 => absurd h2 (by omega)
  | r + 1, u, h1, h2 => by
    unfold pu
    by_cases c : u = v
    · subst c
      rw [pu_congr (g := n) r (u + 1) (fun w g1 g2 => if_neg (by omega))]
      show (if u = u then x else n u) + _ = _
      rw [if_pos rfl]
      omega
    · rw [pu_upd r (u + 1) (by omega) (by omega)]
      show (if u = v then x else n u) + _ = _
      rw [if_neg c]
      omega
theorem c75_step {m r V v k : Nat} {σ σ' : Wd} (h3 : σ.1 m 3 = I (V : Int)) (hV : V ≤ 5) (hv : v < V) (e : f_X4_visit r m (I (v : Int)) σ = some (0, σ')) : f_X4_tick_75 r m (k + 1) (I (v : Int)) σ = f_X4_tick_75 r m k (I ((v : Int) + 1)) σ' := by
  rw [f_X4_tick_75]
  simp (disch := omega) only [↓reduceIte, gd_t, bd_s, nm_W, nm_I, I_add, I_sub, I_mul, I_neg, I_le_t, I_le_f, I_lt_t, I_lt_f, I_eq_t, I_eq_f, I_inb', I_ix', Int.toNat_natCast, decide_true, decide_false, Bool.not_false, Bool.not_true, if_true, if_false, wi_eq, wi_eq', wi_ne, wi_row, wi_2, N0, N1, N2, N3, N4, N5, N6, N7, N8, N9, N10, N11, N12, N13, N14, N15, N16, N17, N18, N19, N20, N21, N22, N23, N24, N25, N26, N27, N28, N29, N30, N31, N32, N33, N34, N35, N36, N37, N38, N39, N40, N41, N42, N43, N45, N48, N57, N59, N88, N89, N97, N99, N120, N121, N122, N179, N200, N255, N300, N400, N880, N900, N999, N1019, N50000000, N100000000, N1000000000, N2147483647, N2147483648, h3, e]
theorem c75_end {m r V k : Nat} {σ : Wd} {z : Int} (h3 : σ.1 m 3 = I (V : Int)) (hV : V ≤ 5) (hz : z = (V : Int)) : f_X4_tick_75 r m (k + 1) (I z) σ = bd (f_X4_startRound r m σ) (fun _ σ2 => some (I 0, σ2)) := by
  rw [f_X4_tick_75]
  simp (disch := omega) only [↓reduceIte, gd_t, bd_s, nm_W, nm_I, I_add, I_sub, I_mul, I_neg, I_le_t, I_le_f, I_lt_t, I_lt_f, I_eq_t, I_eq_f, I_inb', I_ix', Int.toNat_natCast, decide_true, decide_false, Bool.not_false, Bool.not_true, if_true, if_false, wi_eq, wi_eq', wi_ne, wi_row, wi_2, N0, N1, N2, N3, N4, N5, N6, N7, N8, N9, N10, N11, N12, N13, N14, N15, N16, N17, N18, N19, N20, N21, N22, N23, N24, N25, N26, N27, N28, N29, N30, N31, N32, N33, N34, N35, N36, N37, N38, N39, N40, N41, N42, N43, N45, N48, N57, N59, N88, N89, N97, N99, N120, N121, N122, N179, N200, N255, N300, N400, N880, N900, N999, N1019, N50000000, N100000000, N1000000000, N2147483647, N2147483648, h3]
theorem r90_step {V v k : Nat} {τ τ' : Wd} {acc nb : Int32} (h3 : τ.1 102 14 = I (V : Int)) (hV : V ≤ 5) (hv : v < V) (e : f_X7_goesAt (I (v : Int)) τ = some (nb, τ')) : f_X7_tick_90 (k + 1) acc (I (v : Int)) τ = f_X7_tick_90 k (acc + nb) (I ((v : Int) + 1)) τ' := by
  rw [f_X7_tick_90]
  simp (disch := omega) only [↓reduceIte, gd_t, bd_s, nm_W, nm_I, I_add, I_sub, I_mul, I_neg, I_le_t, I_le_f, I_lt_t, I_lt_f, I_eq_t, I_eq_f, I_inb', I_ix', Int.toNat_natCast, decide_true, decide_false, Bool.not_false, Bool.not_true, if_true, if_false, wi_eq, wi_eq', wi_ne, wi_row, wi_2, N0, N1, N2, N3, N4, N5, N6, N7, N8, N9, N10, N11, N12, N13, N14, N15, N16, N17, N18, N19, N20, N21, N22, N23, N24, N25, N26, N27, N28, N29, N30, N31, N32, N33, N34, N35, N36, N37, N38, N39, N40, N41, N42, N43, N45, N48, N57, N59, N88, N89, N97, N99, N120, N121, N122, N179, N200, N255, N300, N400, N880, N900, N999, N1019, N50000000, N100000000, N1000000000, N2147483647, N2147483648, h3, e]
theorem r90_end {V k : Nat} {τ : Wd} {acc : Int32} {z : Int} (h3 : τ.1 102 14 = I (V : Int)) (hV : V ≤ 5) (hz : z = (V : Int)) : f_X7_tick_90 (k + 1) acc (I z) τ = bd (f_X7_beginsRound τ) (fun _ σ2 => some (acc, σ2)) := by
  rw [f_X7_tick_90]
  simp (disch := omega) only [↓reduceIte, gd_t, bd_s, nm_W, nm_I, I_add, I_sub, I_mul, I_neg, I_le_t, I_le_f, I_lt_t, I_lt_f, I_eq_t, I_eq_f, I_inb', I_ix', Int.toNat_natCast, decide_true, decide_false, Bool.not_false, Bool.not_true, if_true, if_false, wi_eq, wi_eq', wi_ne, wi_row, wi_2, N0, N1, N2, N3, N4, N5, N6, N7, N8, N9, N10, N11, N12, N13, N14, N15, N16, N17, N18, N19, N20, N21, N22, N23, N24, N25, N26, N27, N28, N29, N30, N31, N32, N33, N34, N35, N36, N37, N38, N39, N40, N41, N42, N43, N45, N48, N57, N59, N88, N89, N97, N99, N120, N121, N122, N179, N200, N255, N300, N400, N880, N900, N999, N1019, N50000000, N100000000, N1000000000, N2147483647, N2147483648, h3]
set_option maxHeartbeats 1000000 in
theorem visits_ok {m r V : Nat} {p L W : Int} {dl pl : Nat → Int} {b : Bool} {t : Int} (hm : 10 < m) (hmr : m + 12 < r) :
    ∀ (rr v n1 n2 : Nat) (acc : Int32) (z s : Int) (h n g : Nat → Int) (d : MD) (σ τ : Wd), z = (v : Int) → v + rr = V → rr < n1 → rr < n2 → QM m σ τ V d p L W dl pl → QR r σ τ b t s → LR (r + 9) σ τ V d → (∀ w, w < v → QP r σ τ t t w (h w) (n w) (g w)) → (∀ w, v ≤ w → w < V → QP r σ τ (t - 1) t w (h w) (n w) (g w)) → (∀ w, w < V → 0 ≤ n w) → pu n V 0 ≤ s →
      ∃ (σ' τ' : Wd) (d' : MD) (s' : Int) (h' n' g' : Nat → Int) (nb : Int32), f_X4_tick_75 r m n1 (I z) σ = bd (f_X4_startRound r m σ') (fun _ σ2 => some (I 0, σ2)) ∧ f_X7_tick_90 n2 acc (I z) τ = bd (f_X7_beginsRound τ') (fun _ σ2 => some (acc + nb, σ2))
        ∧ QM m σ' τ' V d' p L W dl pl ∧ QR r σ' τ' b t s' ∧ LR (r + 9) σ' τ' V d' ∧ QPs r σ' τ' V t h' n' g' ∧ (∀ w, w < V → 0 ≤ n' w) ∧ pu n' V 0 ≤ s' ∧ (d'.1 = d.1 ∧ d'.lv = d.lv ∧ d'.pr = d.pr) ∧ ((∀ w, w < V → h w = 0) → s' = s ∧ ∀ w, w < V → h' w = 0) ∧ σ'.1 r 3 = σ.1 r 3 + nb
        ∧ ((∀ k, k ≠ m + 9 → k < r ∨ r + 12 < k → σ'.1 k = σ.1 k) ∧ σ'.1 r 6 = σ.1 r 6 ∧ σ'.1 r 7 = σ.1 r 7 ∧ σ'.2 = σ.2) ∧ ((∀ k, k ≠ 112 → τ'.1 k = τ.1 k) ∧ τ'.2 = τ.2)
  | 0, v, n1 + 1, n2 + 1, acc, z, s, h, n, g, d, σ, τ, hz, hv, _, _, hM, hR, hL, hP, hP2, hn, hs =>
    ⟨σ, τ, d, s, h, n, g, I 0, c75_end hM.2.1.1 hM.1.1 (by omega), by rw [addI0]; exact r90_end hM.2.2.1.1 hM.1.1 (by omega), hM, hR, hL, fun w hw => hP w (by omega), hn, hs, ⟨rfl, rfl, rfl⟩, fun q => ⟨rfl, q⟩, (addI0 _).symm, ⟨fun _ _ _ => rfl, rfl, rfl, rfl⟩, ⟨fun _ _ => rfl, rfl⟩⟩
  | rr + 1, v, n1 + 1, n2 + 1, acc, z, s, h, n, g, d, σ, τ, hz, hv, hn1, hn2, hM, hR, hL, hP, hP2, hn, hs => by
    subst hz
    have hvV : v < V := by omega
    have nvs := (pu_ge (w := v) V 0 (fun w g1 g2 => hn w (by omega)) (by omega) (by omega)).1
    obtain ⟨σ1, τ1, d1, s1, hv', nv', gv', nb, a1, a2, a3, a4, a5, a6, a7, a8, a9, a10, a11⟩ := visit_ok hm hmr hvV hM hR hL (hP2 v (Nat.le_refl _) hvV) (by omega)
    have oth : ∀ w, w ≠ v → w < V → ∀ tb h n g, QP r σ τ tb t w h n g → QP r σ1 τ1 tb t w h n g := fun w hw wV tb h n g q => QP_congr q (fun k g1 g2 => a11.1.2.1 k g1 g2 w hw) (fun i g1 g2 => a11.2.2.1 i (by omega) (by have := hM.1.1; omega) (by omega)) (a11.2.1 103 (by decide))
    obtain ⟨σ', τ', d', s', h', n', g', nb', q1, q2, q3, q4, q5, q6, q7, q8, q9, q10, q11, ⟨f1, f2, f3, f4⟩, ⟨f5, f6⟩⟩ := visits_ok hm hmr rr (v + 1) n1 n2 (acc + nb) ((v : Int) + 1) s1 (fun w => if w = v then hv' else h w) (fun w => if w = v then nv' else n w) (fun w => if w = v then gv' else g w) d1 σ1 τ1 (by omega) (by omega) (by omega) (by omega) a3 a4 a6
      (fun w hw => by
        by_cases e : w = v
        · subst e
          simp only [if_true]
          exact a5
        · simp only [if_neg e]
          exact oth w e (by omega) _ _ _ _ (hP w (by omega)))
      (fun w g1 g2 => by
        simp only [if_neg (show ¬ w = v by omega)]
        exact oth w (by omega) g2 _ _ _ _ (hP2 w (by omega) g2))
      (fun w hw => by
        by_cases e : w = v
        · simp only [if_pos e]; exact a8.1
        · simp only [if_neg e]; exact hn w hw)
      (by rw [pu_upd V 0 (by omega) (by omega)]; have := a8.2; omega)
    refine ⟨σ', τ', d', s', h', n', g', nb + nb', ?_, ?_, q3, q4, q5, q6, q7, q8, ⟨by rw [q9.1, a7.1], by rw [q9.2.1, a7.2.1], by rw [q9.2.2, a7.2.2]⟩, fun hz => ?_, by rw [q11, a10, Int32.add_assoc], ⟨fun k g1 g2 => by rw [f1 k g1 g2, a11.1.1 k g1 g2], ?_, by rw [f3, a11.1.2.2.1 7 (by decide) (by decide)], by rw [f4, a11.1.2.2.2]⟩, ⟨fun k hk => by rw [f5 k hk, a11.2.1 k hk], by rw [f6, a11.2.2.2]⟩⟩
    · rw [c75_step hM.2.1.1 hM.1.1 hvV a1]; exact q1
    · rw [r90_step hM.2.2.1.1 hM.1.1 hvV a2, q2, Int32.add_assoc]
    · obtain ⟨y1, y2⟩ := a9 (hz v hvV)
      obtain ⟨y3, y4⟩ := q10 (fun w hw => by
        by_cases e : w = v
        · simp only [if_pos e]; exact y1
        · simp only [if_neg e]; exact hz w hw)
      exact ⟨by omega, y4⟩
    · rw [f2, a11.1.2.2.1 6 (by decide) (by decide)]
/-- all that class (market m, run r) and reference have in common -/
def QQ (m r : Nat) (σ τ : Wd) (V E : Nat) (d : MD) (p L W : Int) (dl pl et : Nat → Int) (b : Bool) (t s rd : Int) (h n g : Nat → Int) : Prop :=
  QM m σ τ V d p L W dl pl ∧ QE m σ τ V E d.lv et ∧ QR r σ τ b t s ∧ QN r σ E et t ∧ QPs r σ τ V t h n g ∧ LR (r + 9) σ τ V d ∧ ((∀ w, w < V → 0 ≤ n w) ∧ pu n V 0 ≤ s) ∧ (σ.1 r 6 = I rd ∧ 0 ≤ rd ∧ rd ≤ t + 1) ∧ (b = false → rd = 0) ∧ (rd = 0 → (∀ w, w < V → h w = 0) ∧ (b = true → s = W))
/-- what a tick leaves alone -/
def TF (m r : Nat) (σ τ σ' τ' : Wd) : Prop := ((∀ k, k < 4 ∨ 9 < k → k ≠ m + 9 → k < r ∨ r + 12 < k → σ'.1 k = σ.1 k) ∧ σ'.2 = σ.2)
  ∧ ((∀ k, k ≠ 102 → k ≠ 112 → k ≠ 116 → k ≠ 117 → τ'.1 k = τ.1 k) ∧ (∀ i, i ≠ 37 → i ≠ 38 → τ'.1 102 i = τ.1 102 i) ∧ τ'.2 = τ.2)
set_option maxHeartbeats 2000000 in
theorem tick_ok {m r V E : Nat} {d : MD} {σ τ : Wd} {p L W : Int} {dl pl et : Nat → Int} {t s rd : Int} {h n g : Nat → Int} (hm : 10 < m) (hmr : m + 12 < r) (hQ : QQ m r σ τ V E d p L W dl pl et true t s rd h n g) (ht : t < 1000000) :
    ∃ (σ' τ' : Wd) (d' : MD) (s' rd' : Int) (h' n' g' : Nat → Int) (nb : Int32), f_X4_tick r m σ = some (0, σ') ∧ f_X7_tick τ = some (nb, τ') ∧ QQ m r σ' τ' V E d' p L W dl pl et true (t + 1) s' rd' h' n' g' ∧ (d'.1 = d.1 ∧ d'.lv = d.lv ∧ d'.pr = d.pr) ∧ σ'.1 r 3 = σ.1 r 3 + nb ∧ TF m r σ τ σ' τ' := by
  obtain ⟨hM, hE, hR, ⟨np, np1, np2, np3, np4⟩, hP, hL, ⟨hn, hs⟩, ⟨r6, rd0, rd1⟩, hb, hz⟩ := hQ
  have t0 := hR.2.1.2.2.1
  obtain ⟨σ0, hσ0⟩ : ∃ x, x = wi σ r 1 (I (t + 1)) := ⟨_, rfl⟩
  obtain ⟨τ0, hτ0⟩ : ∃ x, x = wi τ 112 37 (I (t + 1)) := ⟨_, rfl⟩
  have c0 : ∀ k, k ≠ r → σ0.1 k = σ.1 k := fun k hk => by rw [hσ0, wi_row hk]
  have ci : ∀ i, i ≠ 1 → σ0.1 r i = σ.1 r i := fun i hi => by rw [hσ0, wi_ne hi]
  have e0 : ∀ k, k ≠ 112 → τ0.1 k = τ.1 k := fun k hk => by rw [hτ0, wi_row hk]
  have ei : ∀ i, i ≠ 37 → τ0.1 112 i = τ.1 112 i := fun i hi => by rw [hτ0, wi_ne hi]
  have M0 : QM m σ0 τ0 V d p L W dl pl := QM_rows hM (fun k g1 g2 => c0 k (by omega)) (fun i _ _ => by rw [e0 102 (by decide)]) (e0 103 (by decide)) (e0 104 (by decide)) (fun i hi => ei i (by omega))
  have E0 : QE m σ0 τ0 V E d.lv et := QE_congr hE (by rw [c0 m (by omega)]) (c0 _ (by omega)) (c0 _ (by omega)) (c0 _ (by omega)) (by rw [e0 102 (by decide)]) (e0 105 (by decide))
  have L0 : LR (r + 9) σ0 τ0 V d := LR_congr hL rfl rfl (fun k g1 g2 => c0 k (by omega)) (fun i hi => ei i (by omega))
  have s1 : σ0.1 r 1 = I (t + 1) := by rw [hσ0, wi_eq]
  have t37 : τ0.1 112 37 = I (t + 1) := by rw [hτ0, wi_eq]
  have pre := ev_pre (tt := t + 1) E0 t37 (by omega) (by omega) np 0 (6000 - np) 0 rfl (by omega) (fun j g1 g2 => by have := np3 j (by omega); omega)
  rw [Nat.zero_add] at pre
  have hE10 := hE.1
  obtain ⟨σ1, τ1, d1, np', a1, a2, a3, a4, a5, a6, a7, a8, a9, a10, ⟨f1, f2, f3⟩, ⟨f4, f5, f6⟩⟩ := ev_ok (E := E) (et := et) (tt := t + 1) hm hmr (by omega) (by omega) (E - np) np FU (6000 - np) d σ0 τ0 (by omega) (by show _ < 6000; omega) (by omega) M0 E0 L0 s1 t37 (by rw [ci 7 (by decide)]; exact np1) (fun j g1 g2 => by have := np4 j g1 g2; omega)
  have R1 : QR r σ1 τ1 true (t + 1) s := by
    obtain ⟨⟨y0, y0'⟩, y1, ⟨y2, y2', y3, y4⟩, y5, y6, y7, y8⟩ := hR
    refine ⟨⟨by rw [f2 0 (by decide), ci 0 (by decide)]; exact y0, by rw [f5 36 (by decide), ei 36 (by decide)]; exact y0'⟩, ⟨by rw [f2 1 (by decide)]; exact s1, by rw [f5 37 (by decide)]; exact t37, by omega, by omega⟩, ⟨by rw [f2 2 (by decide), ci 2 (by decide)]; exact y2, by rw [f5 38 (by decide), ei 38 (by decide)]; exact y2', y3, y4⟩, ?_, ?_, ?_, ?_⟩
    · rw [f2 3 (by decide), ci 3 (by decide), f5 39 (by decide), ei 39 (by decide)]; exact y5
    · rw [f2 4 (by decide), ci 4 (by decide), f5 40 (by decide), ei 40 (by decide)]; exact y6
    · rw [f2 5 (by decide), ci 5 (by decide), f5 41 (by decide), ei 41 (by decide)]; exact y7
    · rw [f2 6 (by decide), ci 6 (by decide), f5 42 (by decide), ei 42 (by decide)]; exact y8
  have P1 : ∀ w, w < V → QP r σ1 τ1 (t + 1 - 1) (t + 1) w (h w) (n w) (g w) := by
    intro w hw
    have q := QP_congr (hP w hw) (σ' := σ1) (τ' := τ1) (fun k g1 g2 => by rw [f1 k (by omega) (by omega), c0 k (by omega)]) (fun i g1 g2 => by rw [f5 i (by omega), ei i (by omega)]) (by rw [f4 103 (by decide), e0 103 (by decide)])
    obtain ⟨y1, y2, y3, y4, y5, ⟨u, k, z1, z2, z3, z4, z5, z6, z7, z8, z9, z10, z11⟩, y7⟩ := q
    rw [show t + 1 - 1 = t from by omega]
    exact ⟨y1, y2, y3, y4, y5, ⟨u, k, z1, z2, z3, by omega, z5, z6, z7, by omega, z9, fun q => ⟨(z10 q).1, by have := (z10 q).2; omega⟩, z11⟩, y7⟩
  have h5 := hM.1.1
  obtain ⟨σ2, τ2, d2, s2, h2, n2, g2, nb, b1, b2, b3, b4, b5, b6, b7, b8, b9, b10, b11, ⟨k1, k2, k3, k4⟩, ⟨k5, k6⟩⟩ := visits_ok hm hmr V 0 FU FU (I 0) 0 s h n g d1 σ1 τ1 rfl (by omega) (by show _ < 6000; omega) (by show _ < 6000; omega) a3 R1 a4 (fun w hw => absurd hw (by omega)) (fun w _ hw => P1 w hw) hn hs
  have r62 : σ2.1 r 6 = I rd := by rw [k2, f2 6 (by decide), ci 6 (by decide)]; exact r6
  have hW : rd = 0 → s2 = W := fun q => by
    obtain ⟨x1, x2⟩ := hz q
    obtain ⟨x3, x4⟩ := b10 x1
    have := x2 rfl
    omega
  obtain ⟨σ3, τ3, h3, n3, g3, c, rd', q1, q2, q3, q4, q5, q6, q7, q8, q9, ⟨⟨v1, v2, v3⟩, ⟨v4, v5, v6⟩⟩⟩ := round_ok hm hmr b3 b4 b5 b6 b8 r62 rd0 (by omega) hW
  have cc : ∀ k, k < 4 ∨ 9 < k → k ≠ m + 9 → k < r ∨ r + 12 < k → σ3.1 k = σ.1 k := fun k g1 g2 g3 => by rw [v1 k g1 (by omega), k1 k g2 g3, f1 k g2 (by omega), c0 k (by omega)]
  have d102 : ∀ i, i ≠ 37 → i ≠ 38 → τ3.1 102 i = τ.1 102 i := fun i g1 g2 => by rw [v5 i g1 g2, k5 102 (by decide), f4 102 (by decide), e0 102 (by decide)]
  have dk : ∀ k, k ≠ 102 → k ≠ 112 → k ≠ 116 → k ≠ 117 → τ3.1 k = τ.1 k := fun k g1 g2 g3 g4 => by rw [v4 k g1 g2 g3 g4, k5 k g2, f4 k g2, e0 k g2]
  have sl : d2.1 = d.1 ∧ d2.lv = d.lv ∧ d2.pr = d.pr := ⟨by rw [b9.1, a5.1], by rw [b9.2.1, a5.2.1], by rw [b9.2.2, a5.2.2]⟩
  refine ⟨σ3, τ3, d2, s2, rd', h3, n3, g3, nb, ?_, ?_, ⟨q3, ?_, q4, ⟨np', ?_, a8, ?_, a10⟩, q6, q5, ⟨?_, q7⟩, ⟨q8, by omega, by omega⟩, fun q => (by cases q), fun q => ?_⟩, sl, ?_, ⟨⟨cc, by rw [v3, k4, f3, hσ0, wi_2]⟩, ⟨dk, d102, by rw [v6, k6, f6, hτ0, wi_2]⟩⟩⟩
  · unfold f_X4_tick
    have e : (σ.1 r 1) + (1 : Int32) = I (t + 1) := by rw [hR.2.1.1, show (1 : Int32) = I 1 from rfl, I_add]
    rw [e, nm_W, ← hσ0, a1]
    unfold f_X4_tick_73
    rw [show (0 : Int32) = I 0 from rfl, b1, q1]
    rfl
  · unfold f_X7_tick
    have w37 : Int.toNat 37 = 37 := rfl
    have st : gd (inb (37 : Int32) 179) (gd (inb (37 : Int32) 179) (nmW (wi τ 112 (ix (37 : Int32)) ((τ.1 112 (ix (37 : Int32))) + (1 : Int32))) fun σ1 => (f_X7_tick_13 FU (0 : Int32) σ1))) = f_X7_tick_13 FU (I 0) τ0 := by
      have e37 := hR.2.1.2.1
      rw [hτ0]
      simp (disch := omega) only [↓reduceIte, gd_t, bd_s, nm_W, nm_I, I_add, I_sub, I_mul, I_neg, I_le_t, I_le_f, I_lt_t, I_lt_f, I_eq_t, I_eq_f, I_inb', I_ix', Int.toNat_natCast, decide_true, decide_false, Bool.not_false, Bool.not_true, if_true, if_false, wi_eq, wi_eq', wi_ne, wi_row, wi_2, N0, N1, N2, N3, N4, N5, N6, N7, N8, N9, N10, N11, N12, N13, N14, N15, N16, N17, N18, N19, N20, N21, N22, N23, N24, N25, N26, N27, N28, N29, N30, N31, N32, N33, N34, N35, N36, N37, N38, N39, N40, N41, N42, N43, N45, N48, N57, N59, N88, N89, N97, N99, N120, N121, N122, N179, N200, N255, N300, N400, N880, N900, N999, N1019, N50000000, N100000000, N1000000000, N2147483647, N2147483648, w37, e37]
    rw [st]
    have fu : f_X7_tick_13 FU (I 0) τ0 = f_X7_tick_13 (6000 - np + np) (I 0) τ0 := by rw [show 6000 - np + np = FU from by show _ = 6000; omega]
    rw [fu, pre, a2, b2, q2, bd_s, show I 0 + nb = nb from Int32.zero_add nb]
  · exact QE_congr (by rw [sl.2.1]; exact hE) (by rw [cc m (by omega) (by omega) (by omega)]) (cc _ (by omega) (by omega) (by omega)) (cc _ (by omega) (by omega) (by omega)) (cc _ (by omega) (by omega) (by omega)) (d102 15 (by decide) (by decide)) (dk 105 (by decide) (by decide) (by decide) (by decide))
  · rw [v2 7 (by decide), k3]; exact a6
  · intro j hj
    by_cases g : np ≤ j
    · exact a9 j g hj
    · have := np3 j (by omega)
      omega
  · intro w hw
    have := (q6 w hw).2.2.2.2.2.2.2.2
    omega
  · rcases q9 with ⟨x1, x2⟩ | x1
    · rw [x1] at q
      obtain ⟨y1, y2⟩ := hz q
      obtain ⟨y3, y4⟩ := b10 y1
      exact ⟨by rw [x2]; exact y4, fun _ => hW q⟩
    · omega
  · rw [v2 3 (by decide), b11, f2 3 (by decide), ci 3 (by decide)]
end
section
/-! PURE: is it over; what is told of the run -/
def OF (τ τ' : Wd) : Prop := (∀ k, k ≠ 102 → k ≠ 116 → k ≠ 117 → τ'.1 k = τ.1 k) ∧ (∀ i, i ≠ 37 → i ≠ 38 → τ'.1 102 i = τ.1 102 i) ∧ τ'.2 = τ.2
theorem OF_refl {τ : Wd} : OF τ τ := ⟨fun _ _ _ _ => rfl, fun _ _ _ => rfl, rfl⟩
theorem QQ_congr {m r V E : Nat} {d : MD} {σ τ σ' τ' : Wd} {p L W : Int} {dl pl et : Nat → Int} {b : Bool} {t s rd : Int} {h n g : Nat → Int} (hQ : QQ m r σ τ V E d p L W dl pl et b t s rd h n g) (hmr : m + 12 < r)
    (c : ∀ k, m ≤ k → k ≤ m + 12 → σ'.1 k = σ.1 k) (c2 : ∀ k, r ≤ k → k ≤ r + 12 → σ'.1 k = σ.1 k) (e2 : ∀ i, 12 ≤ i → i ≤ 15 → τ'.1 102 i = τ.1 102 i) (e3 : τ'.1 103 = τ.1 103) (e4 : τ'.1 104 = τ.1 104) (e5 : τ'.1 105 = τ.1 105) (e6 : τ'.1 112 = τ.1 112) : QQ m r σ' τ' V E d p L W dl pl et b t s rd h n g := by
  obtain ⟨hM, hE, hR, ⟨np, np1, np2, np3, np4⟩, hP, hL, hn, ⟨r6, rd0, rd1⟩, hb, hz⟩ := hQ
  refine ⟨QM_rows hM (fun k g1 g2 => c k g1 (by omega)) (fun i g1 g2 => e2 i g1 (by omega)) e3 e4 (fun i _ => by rw [e6]), QE_congr hE (by rw [c m (by omega) (by omega)]) (c _ (by omega) (by omega)) (c _ (by omega) (by omega)) (c _ (by omega) (by omega)) (e2 15 (by decide) (by decide)) e5, ?_, ⟨np, by rw [c2 r (by omega) (by omega)]; exact np1, np2, np3, np4⟩, fun w hw => QP_congr (hP w hw) (fun k g1 g2 => by rw [c2 k (by omega) (by omega)]) (fun i _ _ => by rw [e6]) e3, LR_congr hL rfl rfl (fun k g1 g2 => c2 k (by omega) (by omega)) (fun i _ => by rw [e6]), hn, ⟨by rw [c2 r (by omega) (by omega)]; exact r6, rd0, rd1⟩, hb, hz⟩
  unfold QR
  rw [c2 r (by omega) (by omega), e6]
  exact hR
theorem QQ_OF {m r V E : Nat} {d : MD} {σ τ τ' : Wd} {p L W : Int} {dl pl et : Nat → Int} {b : Bool} {t s rd : Int} {h n g : Nat → Int} (hQ : QQ m r σ τ V E d p L W dl pl et b t s rd h n g) (hmr : m + 12 < r) (o : OF τ τ') : QQ m r σ τ' V E d p L W dl pl et b t s rd h n g :=
  QQ_congr hQ hmr (fun _ _ _ => rfl) (fun _ _ _ => rfl) (fun i g1 g2 => o.2.1 i (by omega) (by omega)) (o.1 103 (by decide) (by decide) (by decide)) (o.1 104 (by decide) (by decide) (by decide)) (o.1 105 (by decide) (by decide) (by decide)) (o.1 112 (by decide) (by decide) (by decide))
theorem tc_step {τ : Wd} {E i k : Nat} {t e acc : Int} (hE : E ≤ 10) (hi : i < E) (h15 : τ.1 102 15 = I (E : Int)) (h37 : τ.1 112 37 = I t) (t0 : 0 ≤ t) (t1 : t ≤ 2000000) (e0 : τ.1 105 (4 * i) = I e) (b0 : 1 ≤ e) (b1 : e ≤ 200) : f_X7_toCome_4 (k + 1) (I acc) (I (i : Int)) τ = f_X7_toCome_4 k (I (acc + (if e ≤ t then 0 else 1))) (I ((i : Int) + 1)) τ := by
  have w0 : ((4 : Int) * (i : Int)).toNat = 4 * i := by omega
  have w37 : Int.toNat 37 = 37 := rfl
  by_cases c : e ≤ t
  · rw [if_pos c, f_X7_toCome_4]
    simp (disch := omega) only [↓reduceIte, gd_t, bd_s, nm_W, nm_I, I_add, I_sub, I_mul, I_neg, I_le_t, I_le_f, I_lt_t, I_lt_f, I_eq_t, I_eq_f, I_inb', I_ix', Int.toNat_natCast, decide_true, decide_false, Bool.not_false, Bool.not_true, if_true, if_false, wi_eq, wi_eq', wi_ne, wi_row, wi_2, N0, N1, N2, N3, N4, N5, N6, N7, N8, N9, N10, N11, N12, N13, N14, N15, N16, N17, N18, N19, N20, N21, N22, N23, N24, N25, N26, N27, N28, N29, N30, N31, N32, N33, N34, N35, N36, N37, N38, N39, N40, N41, N42, N43, N45, N48, N57, N59, N88, N89, N97, N99, N120, N121, N122, N179, N200, N255, N300, N400, N880, N900, N999, N1019, N50000000, N100000000, N1000000000, N2147483647, N2147483648, h15, w0, w37, h37, e0, f_X7_toCome_36]
  · rw [if_neg c, f_X7_toCome_4]
    simp (disch := omega) only [↓reduceIte, gd_t, bd_s, nm_W, nm_I, I_add, I_sub, I_mul, I_neg, I_le_t, I_le_f, I_lt_t, I_lt_f, I_eq_t, I_eq_f, I_inb', I_ix', Int.toNat_natCast, decide_true, decide_false, Bool.not_false, Bool.not_true, if_true, if_false, wi_eq, wi_eq', wi_ne, wi_row, wi_2, N0, N1, N2, N3, N4, N5, N6, N7, N8, N9, N10, N11, N12, N13, N14, N15, N16, N17, N18, N19, N20, N21, N22, N23, N24, N25, N26, N27, N28, N29, N30, N31, N32, N33, N34, N35, N36, N37, N38, N39, N40, N41, N42, N43, N45, N48, N57, N59, N88, N89, N97, N99, N120, N121, N122, N179, N200, N255, N300, N400, N880, N900, N999, N1019, N50000000, N100000000, N1000000000, N2147483647, N2147483648, h15, w0, w37, h37, e0, f_X7_toCome_36]
theorem tc_ok {m V E np : Nat} {σ τ : Wd} {lv : Nat → Nat} {et : Nat → Int} {t : Int} (hQ : QE m σ τ V E lv et) (h37 : τ.1 112 37 = I t) (t0 : 0 ≤ t) (t1 : t ≤ 2000000) (n2 : np ≤ E) (n3 : ∀ i, i < np → et i ≤ t) (n4 : ∀ i, np ≤ i → i < E → t < et i) :
    ∀ (rr i k : Nat) (acc z : Int), z = (i : Int) → i + rr = E → rr < k → acc = (if i ≤ np then 0 else (i : Int) - (np : Int)) → f_X7_toCome_4 k (I acc) (I z) τ = some (I ((E : Int) - (np : Int)), τ)
  | 0, i, k + 1, acc, z, hz, hi, _, ha => by
    have hE := hQ.1
    have h15 := hQ.2.2.1
    have e : acc = (E : Int) - (np : Int) := by
      split at ha <;> omega
    clear hQ n3 n4 ha
    rw [f_X7_toCome_4]
    simp (disch := omega) only [↓reduceIte, gd_t, bd_s, nm_W, nm_I, I_add, I_sub, I_mul, I_neg, I_le_t, I_le_f, I_lt_t, I_lt_f, I_eq_t, I_eq_f, I_inb', I_ix', Int.toNat_natCast, decide_true, decide_false, Bool.not_false, Bool.not_true, if_true, if_false, wi_eq, wi_eq', wi_ne, wi_row, wi_2, N0, N1, N2, N3, N4, N5, N6, N7, N8, N9, N10, N11, N12, N13, N14, N15, N16, N17, N18, N19, N20, N21, N22, N23, N24, N25, N26, N27, N28, N29, N30, N31, N32, N33, N34, N35, N36, N37, N38, N39, N40, N41, N42, N43, N45, N48, N57, N59, N88, N89, N97, N99, N120, N121, N122, N179, N200, N255, N300, N400, N880, N900, N999, N1019, N50000000, N100000000, N1000000000, N2147483647, N2147483648, h15]
    rw [e]
  | rr + 1, i, k + 1, acc, z, hz, hi, hk, ha => by
    subst hz
    obtain ⟨a, b, z, h1, h2, h3, h4, h5, h6, h7, h8, h9⟩ := hQ.2.2.2.1 i (by omega)
    rw [tc_step hQ.1 (by omega) hQ.2.2.1 h37 t0 t1 h8 h5 h6]
    refine tc_ok hQ h37 t0 t1 n2 n3 n4 rr (i + 1) k _ _ (by omega) (by omega) (by omega) ?_
    by_cases c : i < np
    · have := n3 i c
      rw [if_pos this, ha, if_pos (by omega), if_pos (by omega)]
      rfl
    · have := n4 i (by omega) (by omega)
      rw [if_neg (by omega), ha, if_neg (show ¬ i + 1 ≤ np by omega)]
      split <;> omega
theorem tcAll {m V E np : Nat} {σ τ : Wd} {lv : Nat → Nat} {et : Nat → Int} {t : Int} (hQ : QE m σ τ V E lv et) (h37 : τ.1 112 37 = I t) (t0 : 0 ≤ t) (t1 : t ≤ 2000000) (n2 : np ≤ E) (n3 : ∀ i, i < np → et i ≤ t) (n4 : ∀ i, np ≤ i → i < E → t < et i) : f_X7_toCome τ = some (I ((E : Int) - (np : Int)), τ) := by
  have := hQ.1
  exact tc_ok hQ h37 t0 t1 n2 n3 n4 E 0 FU 0 0 rfl (by omega) (by show _ < 6000; omega) (by rw [if_pos (by omega)])
/-! by cases -/
theorem ov_c {m r : Nat} {σ : Wd} {B X s np E H : Int} (h0 : σ.1 r 0 = I B) (e1 : f_X4_nothingUnderWay r m σ = some (I X, σ)) (h2 : σ.1 r 2 = I s) (h7 : σ.1 r 7 = I np) (h4 : σ.1 m 4 = I E) (e2 : f_X3_hasLotWithin m (I s) σ = some (I H, σ)) (b0 : 0 ≤ B ∧ B ≤ 1) (x0 : 0 ≤ X ∧ X ≤ 1) (s0 : 0 ≤ s ∧ s ≤ 120) (n0 : 0 ≤ np ∧ np ≤ 10) (E0 : 0 ≤ E ∧ E ≤ 10) (H0 : 0 ≤ H ∧ H ≤ 1) :
    f_X4_isOver r m σ = some (I (bn (decide (B ≠ 0 ∧ X ≠ 0 ∧ (s = 0 ∨ (np = E ∧ H = 0))))), σ) := by
  by_cases c1 : B = 0
  · rw [decide_eq_false (fun q => q.1 c1), bn_f]
    unfold f_X4_isOver
    simp (disch := omega) only [↓reduceIte, gd_t, bd_s, nm_W, nm_I, I_add, I_sub, I_mul, I_neg, I_le_t, I_le_f, I_lt_t, I_lt_f, I_eq_t, I_eq_f, I_inb', I_ix', Int.toNat_natCast, decide_true, decide_false, Bool.not_false, Bool.not_true, if_true, if_false, wi_eq, wi_eq', wi_ne, wi_row, wi_2, N0, N1, N2, N3, N4, N5, N6, N7, N8, N9, N10, N11, N12, N13, N14, N15, N16, N17, N18, N19, N20, N21, N22, N23, N24, N25, N26, N27, N28, N29, N30, N31, N32, N33, N34, N35, N36, N37, N38, N39, N40, N41, N42, N43, N45, N48, N57, N59, N88, N89, N97, N99, N120, N121, N122, N179, N200, N255, N300, N400, N880, N900, N999, N1019, N50000000, N100000000, N1000000000, N2147483647, N2147483648, h0, f_X4_isOver_15, isb_0]
  · by_cases c2 : X = 0
    · rw [decide_eq_false (fun q => q.2.1 c2), bn_f]
      unfold f_X4_isOver
      simp (disch := omega) only [↓reduceIte, gd_t, bd_s, nm_W, nm_I, I_add, I_sub, I_mul, I_neg, I_le_t, I_le_f, I_lt_t, I_lt_f, I_eq_t, I_eq_f, I_inb', I_ix', Int.toNat_natCast, decide_true, decide_false, Bool.not_false, Bool.not_true, if_true, if_false, wi_eq, wi_eq', wi_ne, wi_row, wi_2, N0, N1, N2, N3, N4, N5, N6, N7, N8, N9, N10, N11, N12, N13, N14, N15, N16, N17, N18, N19, N20, N21, N22, N23, N24, N25, N26, N27, N28, N29, N30, N31, N32, N33, N34, N35, N36, N37, N38, N39, N40, N41, N42, N43, N45, N48, N57, N59, N88, N89, N97, N99, N120, N121, N122, N179, N200, N255, N300, N400, N880, N900, N999, N1019, N50000000, N100000000, N1000000000, N2147483647, N2147483648, h0, e1, f_X4_isOver_15, isb_0]
    · by_cases c3 : s = 0
      · rw [decide_eq_true ⟨c1, c2, Or.inl c3⟩, bn_t]
        unfold f_X4_isOver
        simp (disch := omega) only [↓reduceIte, gd_t, bd_s, nm_W, nm_I, I_add, I_sub, I_mul, I_neg, I_le_t, I_le_f, I_lt_t, I_lt_f, I_eq_t, I_eq_f, I_inb', I_ix', Int.toNat_natCast, decide_true, decide_false, Bool.not_false, Bool.not_true, if_true, if_false, wi_eq, wi_eq', wi_ne, wi_row, wi_2, N0, N1, N2, N3, N4, N5, N6, N7, N8, N9, N10, N11, N12, N13, N14, N15, N16, N17, N18, N19, N20, N21, N22, N23, N24, N25, N26, N27, N28, N29, N30, N31, N32, N33, N34, N35, N36, N37, N38, N39, N40, N41, N42, N43, N45, N48, N57, N59, N88, N89, N97, N99, N120, N121, N122, N179, N200, N255, N300, N400, N880, N900, N999, N1019, N50000000, N100000000, N1000000000, N2147483647, N2147483648, h0, e1, h2, f_X4_isOver_46, f_X4_isOver_51, isb_1]
      · by_cases c4 : np = E
        · by_cases c5 : H = 0
          · rw [decide_eq_true ⟨c1, c2, Or.inr ⟨c4, c5⟩⟩, bn_t]
            unfold f_X4_isOver
            simp (disch := omega) only [↓reduceIte, gd_t, bd_s, nm_W, nm_I, I_add, I_sub, I_mul, I_neg, I_le_t, I_le_f, I_lt_t, I_lt_f, I_eq_t, I_eq_f, I_inb', I_ix', Int.toNat_natCast, decide_true, decide_false, Bool.not_false, Bool.not_true, if_true, if_false, wi_eq, wi_eq', wi_ne, wi_row, wi_2, N0, N1, N2, N3, N4, N5, N6, N7, N8, N9, N10, N11, N12, N13, N14, N15, N16, N17, N18, N19, N20, N21, N22, N23, N24, N25, N26, N27, N28, N29, N30, N31, N32, N33, N34, N35, N36, N37, N38, N39, N40, N41, N42, N43, N45, N48, N57, N59, N88, N89, N97, N99, N120, N121, N122, N179, N200, N255, N300, N400, N880, N900, N999, N1019, N50000000, N100000000, N1000000000, N2147483647, N2147483648, h0, e1, h2, h7, h4, e2, f_X4_isOver_46, f_X4_isOver_51, isb_1]
          · rw [decide_eq_false (by omega), bn_f]
            unfold f_X4_isOver
            simp (disch := omega) only [↓reduceIte, gd_t, bd_s, nm_W, nm_I, I_add, I_sub, I_mul, I_neg, I_le_t, I_le_f, I_lt_t, I_lt_f, I_eq_t, I_eq_f, I_inb', I_ix', Int.toNat_natCast, decide_true, decide_false, Bool.not_false, Bool.not_true, if_true, if_false, wi_eq, wi_eq', wi_ne, wi_row, wi_2, N0, N1, N2, N3, N4, N5, N6, N7, N8, N9, N10, N11, N12, N13, N14, N15, N16, N17, N18, N19, N20, N21, N22, N23, N24, N25, N26, N27, N28, N29, N30, N31, N32, N33, N34, N35, N36, N37, N38, N39, N40, N41, N42, N43, N45, N48, N57, N59, N88, N89, N97, N99, N120, N121, N122, N179, N200, N255, N300, N400, N880, N900, N999, N1019, N50000000, N100000000, N1000000000, N2147483647, N2147483648, h0, e1, h2, h7, h4, e2, f_X4_isOver_50, f_X4_isOver_51, isb_0]
        · rw [decide_eq_false (by omega), bn_f]
          unfold f_X4_isOver
          simp (disch := omega) only [↓reduceIte, gd_t, bd_s, nm_W, nm_I, I_add, I_sub, I_mul, I_neg, I_le_t, I_le_f, I_lt_t, I_lt_f, I_eq_t, I_eq_f, I_inb', I_ix', Int.toNat_natCast, decide_true, decide_false, Bool.not_false, Bool.not_true, if_true, if_false, wi_eq, wi_eq', wi_ne, wi_row, wi_2, N0, N1, N2, N3, N4, N5, N6, N7, N8, N9, N10, N11, N12, N13, N14, N15, N16, N17, N18, N19, N20, N21, N22, N23, N24, N25, N26, N27, N28, N29, N30, N31, N32, N33, N34, N35, N36, N37, N38, N39, N40, N41, N42, N43, N45, N48, N57, N59, N88, N89, N97, N99, N120, N121, N122, N179, N200, N255, N300, N400, N880, N900, N999, N1019, N50000000, N100000000, N1000000000, N2147483647, N2147483648, h0, e1, h2, h7, h4, f_X4_isOver_50, f_X4_isOver_51, isb_0]
theorem ov_r {τ τ1 : Wd} {B X s T U : Int} (h0 : τ.1 112 36 = I B) (e1 : f_X7_isUnderWay τ = some (I X, τ)) (h2 : τ.1 112 38 = I s) (e3 : f_X7_toCome τ = some (I T, τ)) (e2 : s ≠ 0 → f_X7_laysBest (I s) (I (-1)) τ = some (0, τ1)) (e4 : τ1.1 102 37 = I U) (b0 : 0 ≤ B ∧ B ≤ 1) (x0 : 0 ≤ X ∧ X ≤ 1) (s0 : 0 ≤ s ∧ s ≤ 120) (T0 : 0 ≤ T ∧ T ≤ 10) (U0 : 0 ≤ U ∧ U ≤ 120) :
    f_X7_isOver τ = some (I (bn (decide (B ≠ 0 ∧ X = 0 ∧ (s = 0 ∨ (T = 0 ∧ U = 0))))), τ) ∨ f_X7_isOver τ = some (I (bn (decide (B ≠ 0 ∧ X = 0 ∧ (s = 0 ∨ (T = 0 ∧ U = 0))))), τ1) := by
  have w36 : Int.toNat 36 = 36 := rfl
  have w38 : Int.toNat 38 = 38 := rfl
  by_cases c1 : B = 0
  · refine Or.inl ?_
    rw [decide_eq_false (fun q => q.1 c1), bn_f]
    unfold f_X7_isOver
    simp (disch := omega) only [↓reduceIte, gd_t, bd_s, nm_W, nm_I, I_add, I_sub, I_mul, I_neg, I_le_t, I_le_f, I_lt_t, I_lt_f, I_eq_t, I_eq_f, I_inb', I_ix', Int.toNat_natCast, decide_true, decide_false, Bool.not_false, Bool.not_true, if_true, if_false, wi_eq, wi_eq', wi_ne, wi_row, wi_2, N0, N1, N2, N3, N4, N5, N6, N7, N8, N9, N10, N11, N12, N13, N14, N15, N16, N17, N18, N19, N20, N21, N22, N23, N24, N25, N26, N27, N28, N29, N30, N31, N32, N33, N34, N35, N36, N37, N38, N39, N40, N41, N42, N43, N45, N48, N57, N59, N88, N89, N97, N99, N120, N121, N122, N179, N200, N255, N300, N400, N880, N900, N999, N1019, N50000000, N100000000, N1000000000, N2147483647, N2147483648, w36, h0, f_X7_isOver_17, isb_0]
  · by_cases c2 : X = 0
    · by_cases c3 : s = 0
      · refine Or.inl ?_
        rw [decide_eq_true ⟨c1, c2, Or.inl c3⟩, bn_t]
        unfold f_X7_isOver
        simp (disch := omega) only [↓reduceIte, gd_t, bd_s, nm_W, nm_I, I_add, I_sub, I_mul, I_neg, I_le_t, I_le_f, I_lt_t, I_lt_f, I_eq_t, I_eq_f, I_inb', I_ix', Int.toNat_natCast, decide_true, decide_false, Bool.not_false, Bool.not_true, if_true, if_false, wi_eq, wi_eq', wi_ne, wi_row, wi_2, N0, N1, N2, N3, N4, N5, N6, N7, N8, N9, N10, N11, N12, N13, N14, N15, N16, N17, N18, N19, N20, N21, N22, N23, N24, N25, N26, N27, N28, N29, N30, N31, N32, N33, N34, N35, N36, N37, N38, N39, N40, N41, N42, N43, N45, N48, N57, N59, N88, N89, N97, N99, N120, N121, N122, N179, N200, N255, N300, N400, N880, N900, N999, N1019, N50000000, N100000000, N1000000000, N2147483647, N2147483648, w36, w38, h0, e1, h2, isb_1]
      · have e2 := e2 c3
        by_cases c4 : T = 0
        · by_cases c5 : U = 0
          · refine Or.inr ?_
            rw [decide_eq_true ⟨c1, c2, Or.inr ⟨c4, c5⟩⟩, bn_t]
            unfold f_X7_isOver
            simp (disch := omega) only [↓reduceIte, gd_t, bd_s, nm_W, nm_I, I_add, I_sub, I_mul, I_neg, I_le_t, I_le_f, I_lt_t, I_lt_f, I_eq_t, I_eq_f, I_inb', I_ix', Int.toNat_natCast, decide_true, decide_false, Bool.not_false, Bool.not_true, if_true, if_false, wi_eq, wi_eq', wi_ne, wi_row, wi_2, N0, N1, N2, N3, N4, N5, N6, N7, N8, N9, N10, N11, N12, N13, N14, N15, N16, N17, N18, N19, N20, N21, N22, N23, N24, N25, N26, N27, N28, N29, N30, N31, N32, N33, N34, N35, N36, N37, N38, N39, N40, N41, N42, N43, N45, N48, N57, N59, N88, N89, N97, N99, N120, N121, N122, N179, N200, N255, N300, N400, N880, N900, N999, N1019, N50000000, N100000000, N1000000000, N2147483647, N2147483648, w36, w38, h0, e1, h2, e3, e2, e4, f_X7_isOver_64, isb_1]
          · refine Or.inr ?_
            rw [decide_eq_false (by omega), bn_f]
            unfold f_X7_isOver
            simp (disch := omega) only [↓reduceIte, gd_t, bd_s, nm_W, nm_I, I_add, I_sub, I_mul, I_neg, I_le_t, I_le_f, I_lt_t, I_lt_f, I_eq_t, I_eq_f, I_inb', I_ix', Int.toNat_natCast, decide_true, decide_false, Bool.not_false, Bool.not_true, if_true, if_false, wi_eq, wi_eq', wi_ne, wi_row, wi_2, N0, N1, N2, N3, N4, N5, N6, N7, N8, N9, N10, N11, N12, N13, N14, N15, N16, N17, N18, N19, N20, N21, N22, N23, N24, N25, N26, N27, N28, N29, N30, N31, N32, N33, N34, N35, N36, N37, N38, N39, N40, N41, N42, N43, N45, N48, N57, N59, N88, N89, N97, N99, N120, N121, N122, N179, N200, N255, N300, N400, N880, N900, N999, N1019, N50000000, N100000000, N1000000000, N2147483647, N2147483648, w36, w38, h0, e1, h2, e3, e2, e4, f_X7_isOver_64, isb_0]
        · refine Or.inl ?_
          rw [decide_eq_false (by omega), bn_f]
          unfold f_X7_isOver
          simp (disch := omega) only [↓reduceIte, gd_t, bd_s, nm_W, nm_I, I_add, I_sub, I_mul, I_neg, I_le_t, I_le_f, I_lt_t, I_lt_f, I_eq_t, I_eq_f, I_inb', I_ix', Int.toNat_natCast, decide_true, decide_false, Bool.not_false, Bool.not_true, if_true, if_false, wi_eq, wi_eq', wi_ne, wi_row, wi_2, N0, N1, N2, N3, N4, N5, N6, N7, N8, N9, N10, N11, N12, N13, N14, N15, N16, N17, N18, N19, N20, N21, N22, N23, N24, N25, N26, N27, N28, N29, N30, N31, N32, N33, N34, N35, N36, N37, N38, N39, N40, N41, N42, N43, N45, N48, N57, N59, N88, N89, N97, N99, N120, N121, N122, N179, N200, N255, N300, N400, N880, N900, N999, N1019, N50000000, N100000000, N1000000000, N2147483647, N2147483648, w36, w38, h0, e1, h2, e3, isb_0]
    · refine Or.inl ?_
      rw [decide_eq_false (fun q => c2 q.2.1), bn_f]
      unfold f_X7_isOver
      simp (disch := omega) only [↓reduceIte, gd_t, bd_s, nm_W, nm_I, I_add, I_sub, I_mul, I_neg, I_le_t, I_le_f, I_lt_t, I_lt_f, I_eq_t, I_eq_f, I_inb', I_ix', Int.toNat_natCast, decide_true, decide_false, Bool.not_false, Bool.not_true, if_true, if_false, wi_eq, wi_eq', wi_ne, wi_row, wi_2, N0, N1, N2, N3, N4, N5, N6, N7, N8, N9, N10, N11, N12, N13, N14, N15, N16, N17, N18, N19, N20, N21, N22, N23, N24, N25, N26, N27, N28, N29, N30, N31, N32, N33, N34, N35, N36, N37, N38, N39, N40, N41, N42, N43, N45, N48, N57, N59, N88, N89, N97, N99, N120, N121, N122, N179, N200, N255, N300, N400, N880, N900, N999, N1019, N50000000, N100000000, N1000000000, N2147483647, N2147483648, w36, h0, e1, f_X7_isOver_17, isb_0]
theorem over_ok {m r V E : Nat} {d : MD} {σ τ : Wd} {p L W : Int} {dl pl et : Nat → Int} {b : Bool} {t s rd : Int} {h n g : Nat → Int} (hQ : QQ m r σ τ V E d p L W dl pl et b t s rd h n g) :
    ∃ (τ' : Wd) (o : Bool), f_X4_isOver r m σ = some (I (bn o), σ) ∧ f_X7_isOver τ = some (I (bn o), τ') ∧ OF τ τ' := by
  obtain ⟨hM, hE, hR, ⟨np, np1, np2, np3, np4⟩, hP, -⟩ := hQ
  have h5 := hM.1.1
  have hd := hM.1
  have hE10 := hE.1
  have hp : R p := by have := hM.2.2.2.1; unfold R; omega
  have s0 := hR.2.2.1.2.2.1
  have s1 := hR.2.2.1.2.2.2
  have t0 := hR.2.1.2.2.1
  have t1 := hR.2.1.2.2.2
  have eu : f_X4_nothingUnderWay r m σ = some (I (bn (nu (σ.1 (r + 1)) V 0)), σ) := c_nu (b := r) (σ := σ) hM.2.1.1 h5 V 0 FU 0 rfl (by omega) (by show _ < 6000; omega)
  have ru : f_X7_isUnderWay τ = some (I (bn (!nu (σ.1 (r + 1)) V 0)), τ) := r_nu (τ := τ) (f := σ.1 (r + 1)) hM.2.2.1.1 h5 (fun v hv => by rw [(hP v hv).1.1, (hP v hv).1.2]) V 0 FU 0 rfl (by omega) (by show _ < 6000; omega)
  obtain ⟨q, hq⟩ := Int.eq_ofNat_of_zero_le s0
  have q120 : q ≤ 120 := by omega
  obtain ⟨τ1, b1, b2, b3, b4, b5, b6, b7⟩ := rBest (q := q) hd hp (show R (-1) by unfold R; omega) q120 hM.2.2.1 hM.2.2.2.1.2.1
  have eh := cHas (q := q) hM.2.1 hd hp hM.2.2.2.1.1 q120
  rw [← hq] at b1 eh
  have ub := bu_le (f := lcs d p (-1) V V) q
  have tc := tcAll hE hR.2.1.2.1 t0 (by omega) np2 np3 np4
  have ec := ov_c hR.1.1 eu hR.2.2.1.1 np1 hE.2.1 eh (bn_bnd _) (bn_bnd _) ⟨s0, s1⟩ ⟨by omega, by omega⟩ ⟨by omega, by omega⟩ (bn_bnd _)
  have er := ov_r hR.1.2 ru hR.2.2.1.2.1 tc (fun _ => b1) b2 (bn_bnd _) (bn_bnd _) ⟨s0, s1⟩ ⟨by omega, by omega⟩ ⟨by omega, by omega⟩
  have ee : decide (bn b ≠ 0 ∧ bn (!nu (σ.1 (r + 1)) V 0) = 0 ∧ (s = 0 ∨ ((E : Int) - (np : Int) = 0 ∧ ((bu (lcs d p (-1) V V) q : Nat) : Int) = 0))) = decide (bn b ≠ 0 ∧ bn (nu (σ.1 (r + 1)) V 0) ≠ 0 ∧ (s = 0 ∨ ((np : Int) = (E : Int) ∧ bn (decide (0 < bu (lcs d p (-1) V V) q)) = 0))) := by
    apply decide_eq_decide.mpr
    have x1 : bn (!nu (σ.1 (r + 1)) V 0) = 0 ↔ bn (nu (σ.1 (r + 1)) V 0) ≠ 0 := by cases nu (σ.1 (r + 1)) V 0 <;> decide
    have x2 : bn (decide (0 < bu (lcs d p (-1) V V) q)) = 0 ↔ bu (lcs d p (-1) V V) q = 0 := by
      by_cases c : 0 < bu (lcs d p (-1) V V) q
      · rw [decide_eq_true c, bn_t]; omega
      · rw [decide_eq_false c, bn_f]; omega
    rw [x1, x2]
    omega
  rw [ee] at er
  rcases er with er | er
  · exact ⟨τ, _, ec, er, OF_refl⟩
  · exact ⟨τ1, _, ec, er, ⟨fun k g1 g2 g3 => b5 k g1 g2 g3, b6, b7⟩⟩
end
section
/-! PURE: what is told of the run; copies -/
theorem tell_ok {m r V E : Nat} {d : MD} {σ τ : Wd} {p L W : Int} {dl pl et : Nat → Int} {b : Bool} {t s rd w : Int} {h n g : Nat → Int} (hQ : QQ m r σ τ V E d p L W dl pl et b t s rd h n g) (w0 : 0 ≤ w) (w1 : w ≤ 7) :
    ∃ (τ' : Wd) (x : Int32), f_X4_tell r m (I w) σ = some (x, σ) ∧ f_X7_isNow (I w) τ = some (x, τ') ∧ OF τ τ' := by
  obtain ⟨τ1, o, o1, o2, o3⟩ := over_ok hQ
  obtain ⟨hM, hE, hR, ⟨np, np1, np2, np3, np4⟩, hP, -⟩ := hQ
  have tc := tcAll hE hR.2.1.2.1 hR.2.1.2.2.1 (by have := hR.2.1.2.2.2; omega) np2 np3 np4
  have h4 := hE.2.1
  obtain ⟨⟨y0, y0'⟩, ⟨y1, y1', t0, t1⟩, ⟨y2, y2', y3, y4⟩, y5, y6, y7, y8⟩ := hR
  clear hM hE hP np3 np4
  have w37 : Int.toNat 37 = 37 := rfl
  have w38 : Int.toNat 38 = 38 := rfl
  have w39 : Int.toNat 39 = 39 := rfl
  have w40 : Int.toNat 40 = 40 := rfl
  have w41 : Int.toNat 41 = 41 := rfl
  have w42 : Int.toNat 42 = 42 := rfl
  rcases (show w = 0 ∨ w = 1 ∨ w = 2 ∨ w = 3 ∨ w = 4 ∨ w = 5 ∨ w = 6 ∨ w = 7 by omega) with c | c | c | c | c | c | c | c
  · refine ⟨τ, I t, ?_, ?_, OF_refl⟩
    · unfold f_X4_tell
      simp (disch := omega) only [↓reduceIte, gd_t, bd_s, nm_W, nm_I, I_add, I_sub, I_mul, I_neg, I_le_t, I_le_f, I_lt_t, I_lt_f, I_eq_t, I_eq_f, I_inb', I_ix', Int.toNat_natCast, decide_true, decide_false, Bool.not_false, Bool.not_true, if_true, if_false, wi_eq, wi_eq', wi_ne, wi_row, wi_2, N0, N1, N2, N3, N4, N5, N6, N7, N8, N9, N10, N11, N12, N13, N14, N15, N16, N17, N18, N19, N20, N21, N22, N23, N24, N25, N26, N27, N28, N29, N30, N31, N32, N33, N34, N35, N36, N37, N38, N39, N40, N41, N42, N43, N45, N48, N57, N59, N88, N89, N97, N99, N120, N121, N122, N179, N200, N255, N300, N400, N880, N900, N999, N1019, N50000000, N100000000, N1000000000, N2147483647, N2147483648, y1]
    · unfold f_X7_isNow
      simp (disch := omega) only [↓reduceIte, gd_t, bd_s, nm_W, nm_I, I_add, I_sub, I_mul, I_neg, I_le_t, I_le_f, I_lt_t, I_lt_f, I_eq_t, I_eq_f, I_inb', I_ix', Int.toNat_natCast, decide_true, decide_false, Bool.not_false, Bool.not_true, if_true, if_false, wi_eq, wi_eq', wi_ne, wi_row, wi_2, N0, N1, N2, N3, N4, N5, N6, N7, N8, N9, N10, N11, N12, N13, N14, N15, N16, N17, N18, N19, N20, N21, N22, N23, N24, N25, N26, N27, N28, N29, N30, N31, N32, N33, N34, N35, N36, N37, N38, N39, N40, N41, N42, N43, N45, N48, N57, N59, N88, N89, N97, N99, N120, N121, N122, N179, N200, N255, N300, N400, N880, N900, N999, N1019, N50000000, N100000000, N1000000000, N2147483647, N2147483648, w37, y1']
  · refine ⟨τ, I s, ?_, ?_, OF_refl⟩
    · unfold f_X4_tell
      simp (disch := omega) only [↓reduceIte, gd_t, bd_s, nm_W, nm_I, I_add, I_sub, I_mul, I_neg, I_le_t, I_le_f, I_lt_t, I_lt_f, I_eq_t, I_eq_f, I_inb', I_ix', Int.toNat_natCast, decide_true, decide_false, Bool.not_false, Bool.not_true, if_true, if_false, wi_eq, wi_eq', wi_ne, wi_row, wi_2, N0, N1, N2, N3, N4, N5, N6, N7, N8, N9, N10, N11, N12, N13, N14, N15, N16, N17, N18, N19, N20, N21, N22, N23, N24, N25, N26, N27, N28, N29, N30, N31, N32, N33, N34, N35, N36, N37, N38, N39, N40, N41, N42, N43, N45, N48, N57, N59, N88, N89, N97, N99, N120, N121, N122, N179, N200, N255, N300, N400, N880, N900, N999, N1019, N50000000, N100000000, N1000000000, N2147483647, N2147483648, y2]
    · unfold f_X7_isNow
      simp (disch := omega) only [↓reduceIte, gd_t, bd_s, nm_W, nm_I, I_add, I_sub, I_mul, I_neg, I_le_t, I_le_f, I_lt_t, I_lt_f, I_eq_t, I_eq_f, I_inb', I_ix', Int.toNat_natCast, decide_true, decide_false, Bool.not_false, Bool.not_true, if_true, if_false, wi_eq, wi_eq', wi_ne, wi_row, wi_2, N0, N1, N2, N3, N4, N5, N6, N7, N8, N9, N10, N11, N12, N13, N14, N15, N16, N17, N18, N19, N20, N21, N22, N23, N24, N25, N26, N27, N28, N29, N30, N31, N32, N33, N34, N35, N36, N37, N38, N39, N40, N41, N42, N43, N45, N48, N57, N59, N88, N89, N97, N99, N120, N121, N122, N179, N200, N255, N300, N400, N880, N900, N999, N1019, N50000000, N100000000, N1000000000, N2147483647, N2147483648, w38, y2']
  · refine ⟨τ, σ.1 r 3, ?_, ?_, OF_refl⟩
    · unfold f_X4_tell
      simp (disch := omega) only [↓reduceIte, gd_t, bd_s, nm_W, nm_I, I_add, I_sub, I_mul, I_neg, I_le_t, I_le_f, I_lt_t, I_lt_f, I_eq_t, I_eq_f, I_inb', I_ix', Int.toNat_natCast, decide_true, decide_false, Bool.not_false, Bool.not_true, if_true, if_false, wi_eq, wi_eq', wi_ne, wi_row, wi_2, N0, N1, N2, N3, N4, N5, N6, N7, N8, N9, N10, N11, N12, N13, N14, N15, N16, N17, N18, N19, N20, N21, N22, N23, N24, N25, N26, N27, N28, N29, N30, N31, N32, N33, N34, N35, N36, N37, N38, N39, N40, N41, N42, N43, N45, N48, N57, N59, N88, N89, N97, N99, N120, N121, N122, N179, N200, N255, N300, N400, N880, N900, N999, N1019, N50000000, N100000000, N1000000000, N2147483647, N2147483648]
    · unfold f_X7_isNow
      simp (disch := omega) only [↓reduceIte, gd_t, bd_s, nm_W, nm_I, I_add, I_sub, I_mul, I_neg, I_le_t, I_le_f, I_lt_t, I_lt_f, I_eq_t, I_eq_f, I_inb', I_ix', Int.toNat_natCast, decide_true, decide_false, Bool.not_false, Bool.not_true, if_true, if_false, wi_eq, wi_eq', wi_ne, wi_row, wi_2, N0, N1, N2, N3, N4, N5, N6, N7, N8, N9, N10, N11, N12, N13, N14, N15, N16, N17, N18, N19, N20, N21, N22, N23, N24, N25, N26, N27, N28, N29, N30, N31, N32, N33, N34, N35, N36, N37, N38, N39, N40, N41, N42, N43, N45, N48, N57, N59, N88, N89, N97, N99, N120, N121, N122, N179, N200, N255, N300, N400, N880, N900, N999, N1019, N50000000, N100000000, N1000000000, N2147483647, N2147483648, w39, y5]
  · refine ⟨τ, σ.1 r 4, ?_, ?_, OF_refl⟩
    · unfold f_X4_tell
      simp (disch := omega) only [↓reduceIte, gd_t, bd_s, nm_W, nm_I, I_add, I_sub, I_mul, I_neg, I_le_t, I_le_f, I_lt_t, I_lt_f, I_eq_t, I_eq_f, I_inb', I_ix', Int.toNat_natCast, decide_true, decide_false, Bool.not_false, Bool.not_true, if_true, if_false, wi_eq, wi_eq', wi_ne, wi_row, wi_2, N0, N1, N2, N3, N4, N5, N6, N7, N8, N9, N10, N11, N12, N13, N14, N15, N16, N17, N18, N19, N20, N21, N22, N23, N24, N25, N26, N27, N28, N29, N30, N31, N32, N33, N34, N35, N36, N37, N38, N39, N40, N41, N42, N43, N45, N48, N57, N59, N88, N89, N97, N99, N120, N121, N122, N179, N200, N255, N300, N400, N880, N900, N999, N1019, N50000000, N100000000, N1000000000, N2147483647, N2147483648]
    · unfold f_X7_isNow
      simp (disch := omega) only [↓reduceIte, gd_t, bd_s, nm_W, nm_I, I_add, I_sub, I_mul, I_neg, I_le_t, I_le_f, I_lt_t, I_lt_f, I_eq_t, I_eq_f, I_inb', I_ix', Int.toNat_natCast, decide_true, decide_false, Bool.not_false, Bool.not_true, if_true, if_false, wi_eq, wi_eq', wi_ne, wi_row, wi_2, N0, N1, N2, N3, N4, N5, N6, N7, N8, N9, N10, N11, N12, N13, N14, N15, N16, N17, N18, N19, N20, N21, N22, N23, N24, N25, N26, N27, N28, N29, N30, N31, N32, N33, N34, N35, N36, N37, N38, N39, N40, N41, N42, N43, N45, N48, N57, N59, N88, N89, N97, N99, N120, N121, N122, N179, N200, N255, N300, N400, N880, N900, N999, N1019, N50000000, N100000000, N1000000000, N2147483647, N2147483648, w40, y6]
  · refine ⟨τ, σ.1 r 5, ?_, ?_, OF_refl⟩
    · unfold f_X4_tell
      simp (disch := omega) only [↓reduceIte, gd_t, bd_s, nm_W, nm_I, I_add, I_sub, I_mul, I_neg, I_le_t, I_le_f, I_lt_t, I_lt_f, I_eq_t, I_eq_f, I_inb', I_ix', Int.toNat_natCast, decide_true, decide_false, Bool.not_false, Bool.not_true, if_true, if_false, wi_eq, wi_eq', wi_ne, wi_row, wi_2, N0, N1, N2, N3, N4, N5, N6, N7, N8, N9, N10, N11, N12, N13, N14, N15, N16, N17, N18, N19, N20, N21, N22, N23, N24, N25, N26, N27, N28, N29, N30, N31, N32, N33, N34, N35, N36, N37, N38, N39, N40, N41, N42, N43, N45, N48, N57, N59, N88, N89, N97, N99, N120, N121, N122, N179, N200, N255, N300, N400, N880, N900, N999, N1019, N50000000, N100000000, N1000000000, N2147483647, N2147483648]
    · unfold f_X7_isNow
      simp (disch := omega) only [↓reduceIte, gd_t, bd_s, nm_W, nm_I, I_add, I_sub, I_mul, I_neg, I_le_t, I_le_f, I_lt_t, I_lt_f, I_eq_t, I_eq_f, I_inb', I_ix', Int.toNat_natCast, decide_true, decide_false, Bool.not_false, Bool.not_true, if_true, if_false, wi_eq, wi_eq', wi_ne, wi_row, wi_2, N0, N1, N2, N3, N4, N5, N6, N7, N8, N9, N10, N11, N12, N13, N14, N15, N16, N17, N18, N19, N20, N21, N22, N23, N24, N25, N26, N27, N28, N29, N30, N31, N32, N33, N34, N35, N36, N37, N38, N39, N40, N41, N42, N43, N45, N48, N57, N59, N88, N89, N97, N99, N120, N121, N122, N179, N200, N255, N300, N400, N880, N900, N999, N1019, N50000000, N100000000, N1000000000, N2147483647, N2147483648, w41, y7]
  · refine ⟨τ, σ.1 r 6, ?_, ?_, OF_refl⟩
    · unfold f_X4_tell
      simp (disch := omega) only [↓reduceIte, gd_t, bd_s, nm_W, nm_I, I_add, I_sub, I_mul, I_neg, I_le_t, I_le_f, I_lt_t, I_lt_f, I_eq_t, I_eq_f, I_inb', I_ix', Int.toNat_natCast, decide_true, decide_false, Bool.not_false, Bool.not_true, if_true, if_false, wi_eq, wi_eq', wi_ne, wi_row, wi_2, N0, N1, N2, N3, N4, N5, N6, N7, N8, N9, N10, N11, N12, N13, N14, N15, N16, N17, N18, N19, N20, N21, N22, N23, N24, N25, N26, N27, N28, N29, N30, N31, N32, N33, N34, N35, N36, N37, N38, N39, N40, N41, N42, N43, N45, N48, N57, N59, N88, N89, N97, N99, N120, N121, N122, N179, N200, N255, N300, N400, N880, N900, N999, N1019, N50000000, N100000000, N1000000000, N2147483647, N2147483648]
    · unfold f_X7_isNow
      simp (disch := omega) only [↓reduceIte, gd_t, bd_s, nm_W, nm_I, I_add, I_sub, I_mul, I_neg, I_le_t, I_le_f, I_lt_t, I_lt_f, I_eq_t, I_eq_f, I_inb', I_ix', Int.toNat_natCast, decide_true, decide_false, Bool.not_false, Bool.not_true, if_true, if_false, wi_eq, wi_eq', wi_ne, wi_row, wi_2, N0, N1, N2, N3, N4, N5, N6, N7, N8, N9, N10, N11, N12, N13, N14, N15, N16, N17, N18, N19, N20, N21, N22, N23, N24, N25, N26, N27, N28, N29, N30, N31, N32, N33, N34, N35, N36, N37, N38, N39, N40, N41, N42, N43, N45, N48, N57, N59, N88, N89, N97, N99, N120, N121, N122, N179, N200, N255, N300, N400, N880, N900, N999, N1019, N50000000, N100000000, N1000000000, N2147483647, N2147483648, w42, y8]
  · have xb := bn_bnd o
    obtain ⟨x, hx⟩ : ∃ x, x = bn o := ⟨_, rfl⟩
    rw [← hx] at o1 o2 xb
    refine ⟨τ1, I x, ?_, ?_, o3⟩
    · unfold f_X4_tell
      by_cases c2 : x = 0
      · simp (disch := omega) only [↓reduceIte, gd_t, bd_s, nm_W, nm_I, I_add, I_sub, I_mul, I_neg, I_le_t, I_le_f, I_lt_t, I_lt_f, I_eq_t, I_eq_f, I_inb', I_ix', Int.toNat_natCast, decide_true, decide_false, Bool.not_false, Bool.not_true, if_true, if_false, wi_eq, wi_eq', wi_ne, wi_row, wi_2, N0, N1, N2, N3, N4, N5, N6, N7, N8, N9, N10, N11, N12, N13, N14, N15, N16, N17, N18, N19, N20, N21, N22, N23, N24, N25, N26, N27, N28, N29, N30, N31, N32, N33, N34, N35, N36, N37, N38, N39, N40, N41, N42, N43, N45, N48, N57, N59, N88, N89, N97, N99, N120, N121, N122, N179, N200, N255, N300, N400, N880, N900, N999, N1019, N50000000, N100000000, N1000000000, N2147483647, N2147483648, o1, f_X4_tell_87]
        rw [c2]
      · simp (disch := omega) only [↓reduceIte, gd_t, bd_s, nm_W, nm_I, I_add, I_sub, I_mul, I_neg, I_le_t, I_le_f, I_lt_t, I_lt_f, I_eq_t, I_eq_f, I_inb', I_ix', Int.toNat_natCast, decide_true, decide_false, Bool.not_false, Bool.not_true, if_true, if_false, wi_eq, wi_eq', wi_ne, wi_row, wi_2, N0, N1, N2, N3, N4, N5, N6, N7, N8, N9, N10, N11, N12, N13, N14, N15, N16, N17, N18, N19, N20, N21, N22, N23, N24, N25, N26, N27, N28, N29, N30, N31, N32, N33, N34, N35, N36, N37, N38, N39, N40, N41, N42, N43, N45, N48, N57, N59, N88, N89, N97, N99, N120, N121, N122, N179, N200, N255, N300, N400, N880, N900, N999, N1019, N50000000, N100000000, N1000000000, N2147483647, N2147483648, o1, f_X4_tell_87]
        rw [show x = 1 from by omega]
    · unfold f_X7_isNow
      by_cases c2 : x = 0
      · simp (disch := omega) only [↓reduceIte, gd_t, bd_s, nm_W, nm_I, I_add, I_sub, I_mul, I_neg, I_le_t, I_le_f, I_lt_t, I_lt_f, I_eq_t, I_eq_f, I_inb', I_ix', Int.toNat_natCast, decide_true, decide_false, Bool.not_false, Bool.not_true, if_true, if_false, wi_eq, wi_eq', wi_ne, wi_row, wi_2, N0, N1, N2, N3, N4, N5, N6, N7, N8, N9, N10, N11, N12, N13, N14, N15, N16, N17, N18, N19, N20, N21, N22, N23, N24, N25, N26, N27, N28, N29, N30, N31, N32, N33, N34, N35, N36, N37, N38, N39, N40, N41, N42, N43, N45, N48, N57, N59, N88, N89, N97, N99, N120, N121, N122, N179, N200, N255, N300, N400, N880, N900, N999, N1019, N50000000, N100000000, N1000000000, N2147483647, N2147483648, o2, f_X7_isNow_104]
        rw [c2]
      · simp (disch := omega) only [↓reduceIte, gd_t, bd_s, nm_W, nm_I, I_add, I_sub, I_mul, I_neg, I_le_t, I_le_f, I_lt_t, I_lt_f, I_eq_t, I_eq_f, I_inb', I_ix', Int.toNat_natCast, decide_true, decide_false, Bool.not_false, Bool.not_true, if_true, if_false, wi_eq, wi_eq', wi_ne, wi_row, wi_2, N0, N1, N2, N3, N4, N5, N6, N7, N8, N9, N10, N11, N12, N13, N14, N15, N16, N17, N18, N19, N20, N21, N22, N23, N24, N25, N26, N27, N28, N29, N30, N31, N32, N33, N34, N35, N36, N37, N38, N39, N40, N41, N42, N43, N45, N48, N57, N59, N88, N89, N97, N99, N120, N121, N122, N179, N200, N255, N300, N400, N880, N900, N999, N1019, N50000000, N100000000, N1000000000, N2147483647, N2147483648, o2, f_X7_isNow_104]
        rw [show x = 1 from by omega]
  · refine ⟨τ, I ((E : Int) - (np : Int)), ?_, ?_, OF_refl⟩
    · unfold f_X4_tell
      simp (disch := omega) only [↓reduceIte, gd_t, bd_s, nm_W, nm_I, I_add, I_sub, I_mul, I_neg, I_le_t, I_le_f, I_lt_t, I_lt_f, I_eq_t, I_eq_f, I_inb', I_ix', Int.toNat_natCast, decide_true, decide_false, Bool.not_false, Bool.not_true, if_true, if_false, wi_eq, wi_eq', wi_ne, wi_row, wi_2, N0, N1, N2, N3, N4, N5, N6, N7, N8, N9, N10, N11, N12, N13, N14, N15, N16, N17, N18, N19, N20, N21, N22, N23, N24, N25, N26, N27, N28, N29, N30, N31, N32, N33, N34, N35, N36, N37, N38, N39, N40, N41, N42, N43, N45, N48, N57, N59, N88, N89, N97, N99, N120, N121, N122, N179, N200, N255, N300, N400, N880, N900, N999, N1019, N50000000, N100000000, N1000000000, N2147483647, N2147483648, h4, np1]
    · unfold f_X7_isNow
      simp (disch := omega) only [↓reduceIte, gd_t, bd_s, nm_W, nm_I, I_add, I_sub, I_mul, I_neg, I_le_t, I_le_f, I_lt_t, I_lt_f, I_eq_t, I_eq_f, I_inb', I_ix', Int.toNat_natCast, decide_true, decide_false, Bool.not_false, Bool.not_true, if_true, if_false, wi_eq, wi_eq', wi_ne, wi_row, wi_2, N0, N1, N2, N3, N4, N5, N6, N7, N8, N9, N10, N11, N12, N13, N14, N15, N16, N17, N18, N19, N20, N21, N22, N23, N24, N25, N26, N27, N28, N29, N30, N31, N32, N33, N34, N35, N36, N37, N38, N39, N40, N41, N42, N43, N45, N48, N57, N59, N88, N89, N97, N99, N120, N121, N122, N179, N200, N255, N300, N400, N880, N900, N999, N1019, N50000000, N100000000, N1000000000, N2147483647, N2147483648, tc]
theorem wc_eq {σ : Wd} {k : Nat} {f : Nat → Int32} : (wc σ k f).1 k = f := if_pos rfl
theorem wc_row {σ : Wd} {k a : Nat} {f : Nat → Int32} (h : a ≠ k) : (wc σ k f).1 a = σ.1 a := if_neg h
theorem wc_2 {σ : Wd} {k : Nat} {f : Nat → Int32} : (wc σ k f).2 = σ.2 := rfl
theorem cpy_at {f g : Nat → Int32} {n i : Nat} (h : i < n) : va_cpy f g 0 0 n i = f i := by
  show (if 0 ≤ i ∧ i < 0 + n then f (0 + (i - 0)) else g i) = f i
  rw [if_pos ⟨by omega, by omega⟩, Nat.zero_add, Nat.sub_zero]
def cpc (b m : Nat) : List Nat → Wd → Wd
  | [], X => X
  | i :: l, X => cpc b m l (wi X b i (X.1 m i))
def cps (b m : Nat) : List (Nat × Nat) → Wd → Wd
  | [], X => X
  | e :: l, X => cps b m l (wc X (b + e.1) (va_cpy (X.1 (m + e.1)) (X.1 (b + e.1)) 0 0 e.2))
theorem cpc_row {b m k : Nat} (h : k ≠ b) : ∀ (l : List Nat) (X : Wd), (cpc b m l X).1 k = X.1 k
  | [], _ => rfl
  | i :: l, X => by rw [cpc, cpc_row h l, wi_row h]
theorem cpc_2 {b m : Nat} : ∀ (l : List Nat) (X : Wd), (cpc b m l X).2 = X.2
  | [], _ => rfl
  | i :: l, X => by rw [cpc, cpc_2 l, wi_2]
theorem cpc_keep {b m i : Nat} (h : b ≠ m) : ∀ (l : List Nat) (X : Wd), X.1 b i = X.1 m i → (cpc b m l X).1 b i = X.1 m i
  | [], _, e => e
  | j :: l, X, e => by
    rw [cpc, cpc_keep h l]
    · rw [wi_row (Ne.symm h)]
    · rw [wi_row (Ne.symm h)]
      by_cases c : i = j
      · rw [c, wi_eq]
      · rw [wi_ne c]; exact e
theorem cpc_at {b m i : Nat} (h : b ≠ m) : ∀ (l : List Nat) (X : Wd), i ∈ l → (cpc b m l X).1 b i = X.1 m i
  | [], _, e => by cases e
  | j :: l, X, e => by
    rw [cpc]
    by_cases c : i = j
    · rw [cpc_keep h l _ (by rw [wi_row (Ne.symm h), c, wi_eq]), wi_row (Ne.symm h)]
    · rw [cpc_at h l _ (by
        cases e with
        | head => exact absurd rfl c
        | tail _ q => exact q), wi_row (Ne.symm h)]
theorem cps_row {b m k : Nat} : ∀ (l : List (Nat × Nat)) (X : Wd), (∀ e, e ∈ l → b + e.1 ≠ k) → (cps b m l X).1 k = X.1 k
  | [], _, _ => rfl
  | e :: l, X, h => by
    rw [cps, cps_row l _ (fun q hq => h q (List.mem_cons_of_mem _ hq)), wc_row (fun q => h e (List.mem_cons_self) q.symm)]
theorem cps_2 {b m : Nat} : ∀ (l : List (Nat × Nat)) (X : Wd), (cps b m l X).2 = X.2
  | [], _ => rfl
  | e :: l, X => by rw [cps, cps_2 l, wc_2]
theorem cps_at {b m : Nat} {e : Nat × Nat} {i : Nat} (hi : i < e.2) : ∀ (l : List (Nat × Nat)) (X : Wd), (∀ q, q ∈ l → b + q.1 ≠ m + e.1) → (l.map Prod.fst).Nodup → e ∈ l → (cps b m l X).1 (b + e.1) i = X.1 (m + e.1) i
  | [], _, _, _, h => by cases h
  | q :: l, X, hs, hn, h => by
    have hn' := List.nodup_cons.mp hn
    rw [cps]
    by_cases c : q = e
    · subst c
      rw [cps_row l _ (fun x hx y => hn'.1 (by
        have : x.1 = q.1 := by omega
        rw [← this]
        exact List.mem_map_of_mem hx)), wc_eq, cpy_at hi]
    · rw [cps_at hi l _ (fun x hx => hs x (List.mem_cons_of_mem _ hx)) hn'.2 (by
        cases h with
        | head => exact absurd rfl c
        | tail _ y => exact y), wc_row (fun y => hs q (List.mem_cons_self) y.symm)]
def mrows : List (Nat × Nat) := [(1, 5), (2, 5), (3, 5), (4, 5), (5, 5), (6, 5), (7, 5), (8, 30), (9, 30), (10, 10), (11, 10), (12, 10)]
theorem mrows_b : ∀ e, e ∈ mrows → 1 ≤ e.1 ∧ e.1 ≤ 12 := by decide
theorem mrows_7 : ∀ j, j < 8 → 1 ≤ j → (j, 5) ∈ mrows := by decide
theorem mrows_9 : ∀ j, j < 10 → 8 ≤ j → (j, 30) ∈ mrows := by decide
theorem mrows_12 : ∀ j, j < 13 → 10 ≤ j → (j, 10) ∈ mrows := by decide
theorem mrows_n : (mrows.map Prod.fst).Nodup := by decide
theorem copyM_eq {b m : Nat} {σ : Wd} : f_X3_copyFrom b m σ = some (0, cps b m mrows (cpc b m [0, 1, 2, 3, 4] σ)) := by
  unfold f_X3_copyFrom mrows
  rw [nm_W]
  generalize h1 : wi σ b 0 (σ.1 m 0) = s1
  rw [nm_W]
  generalize h2 : wi s1 b 1 (s1.1 m 1) = s2
  rw [nm_W]
  generalize h3 : wi s2 b 2 (s2.1 m 2) = s3
  rw [nm_W]
  generalize h4 : wi s3 b 3 (s3.1 m 3) = s4
  rw [nm_W]
  generalize h5 : wi s4 b 4 (s4.1 m 4) = s5
  rw [nm_W]
  generalize h6 : wc s5 (b + 1) (va_cpy (s5.1 (m + 1)) (s5.1 (b + 1)) 0 0 5) = s6
  rw [nm_W]
  generalize h7 : wc s6 (b + 2) (va_cpy (s6.1 (m + 2)) (s6.1 (b + 2)) 0 0 5) = s7
  rw [nm_W]
  generalize h8 : wc s7 (b + 3) (va_cpy (s7.1 (m + 3)) (s7.1 (b + 3)) 0 0 5) = s8
  rw [nm_W]
  generalize h9 : wc s8 (b + 4) (va_cpy (s8.1 (m + 4)) (s8.1 (b + 4)) 0 0 5) = s9
  rw [nm_W]
  generalize h10 : wc s9 (b + 5) (va_cpy (s9.1 (m + 5)) (s9.1 (b + 5)) 0 0 5) = s10
  rw [nm_W]
  generalize h11 : wc s10 (b + 6) (va_cpy (s10.1 (m + 6)) (s10.1 (b + 6)) 0 0 5) = s11
  rw [nm_W]
  generalize h12 : wc s11 (b + 7) (va_cpy (s11.1 (m + 7)) (s11.1 (b + 7)) 0 0 5) = s12
  rw [nm_W]
  generalize h13 : wc s12 (b + 8) (va_cpy (s12.1 (m + 8)) (s12.1 (b + 8)) 0 0 30) = s13
  rw [nm_W]
  generalize h14 : wc s13 (b + 9) (va_cpy (s13.1 (m + 9)) (s13.1 (b + 9)) 0 0 30) = s14
  rw [nm_W]
  generalize h15 : wc s14 (b + 10) (va_cpy (s14.1 (m + 10)) (s14.1 (b + 10)) 0 0 10) = s15
  rw [nm_W]
  generalize h16 : wc s15 (b + 11) (va_cpy (s15.1 (m + 11)) (s15.1 (b + 11)) 0 0 10) = s16
  rw [nm_W]
  generalize h17 : wc s16 (b + 12) (va_cpy (s16.1 (m + 12)) (s16.1 (b + 12)) 0 0 10) = s17
  rw [cpc, h1, cpc, h2, cpc, h3, cpc, h4, cpc, h5, cpc]
  rw [cps, h6, cps, h7, cps, h8, cps, h9, cps, h10, cps, h11, cps, h12, cps, h13, cps, h14, cps, h15, cps, h16, cps, h17, cps]
theorem cCopyM {b m : Nat} {σ : Wd} (hs : b + 12 < m ∨ m + 12 < b) : ∃ σ', f_X3_copyFrom b m σ = some (0, σ') ∧ (∀ i, i < 5 → σ'.1 b i = σ.1 m i) ∧ (∀ j, 1 ≤ j → j ≤ 7 → ∀ i, i < 5 → σ'.1 (b + j) i = σ.1 (m + j) i) ∧ (∀ j, 8 ≤ j → j ≤ 9 → ∀ i, i < 30 → σ'.1 (b + j) i = σ.1 (m + j) i) ∧ (∀ j, 10 ≤ j → j ≤ 12 → ∀ i, i < 10 → σ'.1 (b + j) i = σ.1 (m + j) i)
    ∧ (∀ k, k < b ∨ b + 12 < k → σ'.1 k = σ.1 k) ∧ σ'.2 = σ.2 := by
  have key : ∀ e i, e ∈ mrows → i < e.2 → (cps b m mrows (cpc b m [0, 1, 2, 3, 4] σ)).1 (b + e.1) i = σ.1 (m + e.1) i := fun e i he hi => by
    have := mrows_b e he
    rw [cps_at hi mrows _ (fun q hq => by have := mrows_b q hq; omega) mrows_n he, cpc_row (by omega)]
  refine ⟨cps b m mrows (cpc b m [0, 1, 2, 3, 4] σ), copyM_eq, fun i hi => ?_, fun j h1 h2 i hi => key (j, 5) i (mrows_7 j (by omega) h1) hi, fun j h1 h2 i hi => key (j, 30) i (mrows_9 j (by omega) h1) hi, fun j h1 h2 i hi => key (j, 10) i (mrows_12 j (by omega) h1) hi, fun k hk => ?_, by rw [cps_2, cpc_2]⟩
  · rw [cps_row mrows _ (fun q hq => by have := mrows_b q hq; omega), cpc_at (by omega)]
    rcases (show i = 0 ∨ i = 1 ∨ i = 2 ∨ i = 3 ∨ i = 4 by omega) with c | c | c | c | c <;> subst c <;> decide
  · rw [cps_row mrows _ (fun q hq => by have := mrows_b q hq; omega), cpc_row (by omega)]
def rrows : List (Nat × Nat) := [(1, 5), (2, 5), (3, 5), (4, 5), (5, 5), (6, 5), (7, 5), (8, 5)]
theorem rrows_b : ∀ e, e ∈ rrows → 1 ≤ e.1 ∧ e.1 ≤ 8 := by decide
theorem rrows_8 : ∀ j, j < 9 → 1 ≤ j → (j, 5) ∈ rrows := by decide
theorem rrows_n : (rrows.map Prod.fst).Nodup := by decide
def lrows : List (Nat × Nat) := [(1, 30), (2, 30), (3, 30)]
theorem lrows_b : ∀ e, e ∈ lrows → 1 ≤ e.1 ∧ e.1 ≤ 3 := by decide
theorem lrows_3 : ∀ j, j < 4 → 1 ≤ j → (j, 30) ∈ lrows := by decide
theorem lrows_n : (lrows.map Prod.fst).Nodup := by decide
def cpR (b r : Nat) (σ : Wd) : Wd := cps (b + 9) (r + 9) lrows (cpc (b + 9) (r + 9) [0] (cps b r rrows (cpc b r [0, 1, 2, 3, 4, 5, 6, 7] σ)))
theorem copyR_eq {b r : Nat} {σ : Wd} (e : isb (σ.1 r 0) = true) : f_X4_copyFrom b r σ = some (0, cpR b r σ) := by
  unfold f_X4_copyFrom cpR rrows lrows
  rw [e, gd_t]
  rw [nm_W]
  generalize h1 : wi σ b 0 (σ.1 r 0) = s1
  rw [nm_W]
  generalize h2 : wi s1 b 1 (s1.1 r 1) = s2
  rw [nm_W]
  generalize h3 : wi s2 b 2 (s2.1 r 2) = s3
  rw [nm_W]
  generalize h4 : wi s3 b 3 (s3.1 r 3) = s4
  rw [nm_W]
  generalize h5 : wi s4 b 4 (s4.1 r 4) = s5
  rw [nm_W]
  generalize h6 : wi s5 b 5 (s5.1 r 5) = s6
  rw [nm_W]
  generalize h7 : wi s6 b 6 (s6.1 r 6) = s7
  rw [nm_W]
  generalize h8 : wi s7 b 7 (s7.1 r 7) = s8
  rw [nm_W]
  generalize h9 : wc s8 (b + 1) (va_cpy (s8.1 (r + 1)) (s8.1 (b + 1)) 0 0 5) = s9
  rw [nm_W]
  generalize h10 : wc s9 (b + 2) (va_cpy (s9.1 (r + 2)) (s9.1 (b + 2)) 0 0 5) = s10
  rw [nm_W]
  generalize h11 : wc s10 (b + 3) (va_cpy (s10.1 (r + 3)) (s10.1 (b + 3)) 0 0 5) = s11
  rw [nm_W]
  generalize h12 : wc s11 (b + 4) (va_cpy (s11.1 (r + 4)) (s11.1 (b + 4)) 0 0 5) = s12
  rw [nm_W]
  generalize h13 : wc s12 (b + 5) (va_cpy (s12.1 (r + 5)) (s12.1 (b + 5)) 0 0 5) = s13
  rw [nm_W]
  generalize h14 : wc s13 (b + 6) (va_cpy (s13.1 (r + 6)) (s13.1 (b + 6)) 0 0 5) = s14
  rw [nm_W]
  generalize h15 : wc s14 (b + 7) (va_cpy (s14.1 (r + 7)) (s14.1 (b + 7)) 0 0 5) = s15
  rw [nm_W]
  generalize h16 : wc s15 (b + 8) (va_cpy (s15.1 (r + 8)) (s15.1 (b + 8)) 0 0 5) = s16
  unfold f_X2_copyFrom
  rw [nm_W]
  generalize h17 : wi s16 (b + 9) 0 (s16.1 (r + 9) 0) = s17
  rw [nm_W]
  generalize h18 : wc s17 (b + 9 + 1) (va_cpy (s17.1 (r + 9 + 1)) (s17.1 (b + 9 + 1)) 0 0 30) = s18
  rw [nm_W]
  generalize h19 : wc s18 (b + 9 + 2) (va_cpy (s18.1 (r + 9 + 2)) (s18.1 (b + 9 + 2)) 0 0 30) = s19
  rw [nm_W]
  generalize h20 : wc s19 (b + 9 + 3) (va_cpy (s19.1 (r + 9 + 3)) (s19.1 (b + 9 + 3)) 0 0 30) = s20
  have e1 : cpc b r [0, 1, 2, 3, 4, 5, 6, 7] σ = s8 := by rw [cpc, h1, cpc, h2, cpc, h3, cpc, h4, cpc, h5, cpc, h6, cpc, h7, cpc, h8, cpc]
  have e2 : cps b r [(1, 5), (2, 5), (3, 5), (4, 5), (5, 5), (6, 5), (7, 5), (8, 5)] s8 = s16 := by rw [cps, h9, cps, h10, cps, h11, cps, h12, cps, h13, cps, h14, cps, h15, cps, h16, cps]
  have e3 : cpc (b + 9) (r + 9) [0] s16 = s17 := by rw [cpc, h17, cpc]
  have e4 : cps (b + 9) (r + 9) [(1, 30), (2, 30), (3, 30)] s17 = s20 := by rw [cps, h18, cps, h19, cps, h20, cps]
  rw [e1, e2, e3, e4]
  rfl
theorem cCopyR {b r : Nat} {σ : Wd} {x : Bool} (hs : b + 12 < r ∨ r + 12 < b) (hb : σ.1 r 0 = I (bn x)) : ∃ σ', f_X4_copyFrom b r σ = some (0, σ') ∧ (∀ i, i < 8 → σ'.1 b i = σ.1 r i) ∧ (∀ j, 1 ≤ j → j ≤ 8 → ∀ i, i < 5 → σ'.1 (b + j) i = σ.1 (r + j) i) ∧ σ'.1 (b + 9) 0 = σ.1 (r + 9) 0 ∧ (∀ j, 10 ≤ j → j ≤ 12 → ∀ i, i < 30 → σ'.1 (b + j) i = σ.1 (r + j) i)
    ∧ (∀ k, k < b ∨ b + 12 < k → σ'.1 k = σ.1 k) ∧ σ'.2 = σ.2 := by
  have e : isb (σ.1 r 0) = true := by rw [hb]; exact isb_b x
  have lo : ∀ k, (k < b + 9 ∨ b + 12 < k) → (cpR b r σ).1 k = (cps b r rrows (cpc b r [0, 1, 2, 3, 4, 5, 6, 7] σ)).1 k := fun k hk => by
    unfold cpR
    rw [cps_row lrows _ (fun q hq => by have := lrows_b q hq; omega), cpc_row (by omega)]
  refine ⟨cpR b r σ, copyR_eq e, fun i hi => ?_, fun j h1 h2 i hi => ?_, ?_, fun j h1 h2 i hi => ?_, fun k hk => ?_, ?_⟩
  · rw [lo b (by omega), cps_row rrows _ (fun q hq => by have := rrows_b q hq; omega), cpc_at (by omega)]
    rcases (show i = 0 ∨ i = 1 ∨ i = 2 ∨ i = 3 ∨ i = 4 ∨ i = 5 ∨ i = 6 ∨ i = 7 by omega) with c | c | c | c | c | c | c | c <;> subst c <;> decide
  · have he := rrows_8 j (by omega) h1
    rw [lo (b + j) (by omega), show b + j = b + ((j, 5) : Nat × Nat).1 from rfl, cps_at (e := (j, 5)) hi rrows _ (fun q hq => by have := rrows_b q hq; show b + q.1 ≠ r + j; omega) rrows_n he, cpc_row (show r + j ≠ b by omega)]
  · unfold cpR
    rw [cps_row lrows _ (fun q hq => by have := lrows_b q hq; omega), cpc_at (by omega) _ _ (by decide), cps_row rrows _ (fun q hq => by have := rrows_b q hq; omega), cpc_row (by omega)]
  · obtain ⟨a, ha⟩ : ∃ a, a = j - 9 := ⟨_, rfl⟩
    have he := lrows_3 a (by omega) (by omega)
    unfold cpR
    rw [show b + j = b + 9 + ((a, 30) : Nat × Nat).1 from by show _ = b + 9 + a; omega, cps_at (e := (a, 30)) hi lrows _ (fun q hq => by have := lrows_b q hq; show b + 9 + q.1 ≠ r + 9 + a; omega) lrows_n he, cpc_row (show r + 9 + a ≠ b + 9 by omega), cps_row rrows _ (fun q hq => by have := rrows_b q hq; show b + q.1 ≠ r + 9 + a; omega), cpc_row (show r + 9 + a ≠ b by omega), show r + 9 + a = r + j from by omega]
  · rw [lo k (by omega), cps_row rrows _ (fun q hq => by have := rrows_b q hq; omega), cpc_row (by omega)]
  · unfold cpR
    rw [cps_2, cpc_2, cps_2, cpc_2]
theorem r_cpy {a b : Nat} (hab : a ≠ b) : ∀ (rr i n : Nat) (z : Int) (τ : Wd), z = (i : Int) → i + rr = 179 → rr < n → (∀ j, j < i → τ.1 b j = τ.1 a j) → ∃ τ', f_X7_copies_2 a 179 b 179 n (I z) τ = some (0, τ') ∧ (∀ j, j < 179 → τ'.1 b j = τ.1 a j) ∧ (∀ k, k ≠ b → τ'.1 k = τ.1 k) ∧ τ'.2 = τ.2
  | 0, i, n + 1, z, τ, hz, hi, _, h => by
    refine ⟨τ, ?_, fun j hj => h j (by omega), fun _ _ => rfl, rfl⟩
    rw [f_X7_copies_2]
    simp (disch := omega) only [↓reduceIte, gd_t, bd_s, nm_W, nm_I, I_add, I_sub, I_mul, I_neg, I_le_t, I_le_f, I_lt_t, I_lt_f, I_eq_t, I_eq_f, I_inb', I_ix', Int.toNat_natCast, decide_true, decide_false, Bool.not_false, Bool.not_true, if_true, if_false, wi_eq, wi_eq', wi_ne, wi_row, wi_2, N0, N1, N2, N3, N4, N5, N6, N7, N8, N9, N10, N11, N12, N13, N14, N15, N16, N17, N18, N19, N20, N21, N22, N23, N24, N25, N26, N27, N28, N29, N30, N31, N32, N33, N34, N35, N36, N37, N38, N39, N40, N41, N42, N43, N45, N48, N57, N59, N88, N89, N97, N99, N120, N121, N122, N179, N200, N255, N300, N400, N880, N900, N999, N1019, N50000000, N100000000, N1000000000, N2147483647, N2147483648]
  | rr + 1, i, n + 1, z, τ, hz, hi, hn, h => by
    have tz : z.toNat = i := by omega
    obtain ⟨τ', q1, q2, q3, q4⟩ := r_cpy hab rr (i + 1) n (z + 1) (wi τ b i (τ.1 a i)) (by omega) (by omega) (by omega) (fun j hj => by
      rw [wi_row hab]
      by_cases c : j = i
      · rw [c, wi_eq]
      · rw [wi_ne c]; exact h j (by omega))
    refine ⟨τ', ?_, fun j hj => by rw [q2 j hj, wi_row hab], fun k hk => by rw [q3 k hk, wi_row hk], by rw [q4, wi_2]⟩
    rw [← q1, f_X7_copies_2]
    simp (disch := omega) only [↓reduceIte, gd_t, bd_s, nm_W, nm_I, I_add, I_sub, I_mul, I_neg, I_le_t, I_le_f, I_lt_t, I_lt_f, I_eq_t, I_eq_f, I_inb', I_ix', Int.toNat_natCast, decide_true, decide_false, Bool.not_false, Bool.not_true, if_true, if_false, wi_eq, wi_eq', wi_ne, wi_row, wi_2, N0, N1, N2, N3, N4, N5, N6, N7, N8, N9, N10, N11, N12, N13, N14, N15, N16, N17, N18, N19, N20, N21, N22, N23, N24, N25, N26, N27, N28, N29, N30, N31, N32, N33, N34, N35, N36, N37, N38, N39, N40, N41, N42, N43, N45, N48, N57, N59, N88, N89, N97, N99, N120, N121, N122, N179, N200, N255, N300, N400, N880, N900, N999, N1019, N50000000, N100000000, N1000000000, N2147483647, N2147483648, tz]
theorem rCopy {a b : Nat} {τ : Wd} (hab : a ≠ b) : ∃ τ', f_X7_copies a 179 b 179 τ = some (0, τ') ∧ (∀ j, j < 179 → τ'.1 b j = τ.1 a j) ∧ (∀ k, k ≠ b → τ'.1 k = τ.1 k) ∧ τ'.2 = τ.2 :=
  r_cpy hab 179 0 FU 0 τ rfl rfl (by decide) (fun j hj => absurd hj (by omega))
set_option maxHeartbeats 1000000 in
theorem QQ_move {m r m' r' V E : Nat} {d : MD} {σ τ σ' τ' : Wd} {p L W : Int} {dl pl et : Nat → Int} {b : Bool} {t s rd : Int} {h n g : Nat → Int} (hQ : QQ m r σ τ V E d p L W dl pl et b t s rd h n g)
    (m0 : ∀ i, i < 5 → σ'.1 m' i = σ.1 m i) (m1 : ∀ j, 1 ≤ j → j ≤ 7 → ∀ i, i < 5 → σ'.1 (m' + j) i = σ.1 (m + j) i) (m8 : ∀ j, 8 ≤ j → j ≤ 9 → ∀ i, i < 30 → σ'.1 (m' + j) i = σ.1 (m + j) i) (m10 : ∀ j, 10 ≤ j → j ≤ 12 → ∀ i, i < 10 → σ'.1 (m' + j) i = σ.1 (m + j) i)
    (r0 : ∀ i, i < 8 → σ'.1 r' i = σ.1 r i) (r1 : ∀ j, 1 ≤ j → j ≤ 8 → ∀ i, i < 5 → σ'.1 (r' + j) i = σ.1 (r + j) i) (r9 : σ'.1 (r' + 9) 0 = σ.1 (r + 9) 0) (r10 : ∀ j, 10 ≤ j → j ≤ 12 → ∀ i, i < 30 → σ'.1 (r' + j) i = σ.1 (r + j) i)
    (e2 : ∀ i, 12 ≤ i → i ≤ 15 → τ'.1 102 i = τ.1 102 i) (e3 : τ'.1 103 = τ.1 103) (e4 : τ'.1 104 = τ.1 104) (e5 : τ'.1 105 = τ.1 105) (e6 : ∀ i, i < 179 → τ'.1 112 i = τ.1 112 i) : QQ m' r' σ' τ' V E d p L W dl pl et b t s rd h n g := by
  obtain ⟨⟨a1, a2, a3, a4, a5, a6, a7, a8⟩, ⟨b1, b2, b3, b4, b5⟩, ⟨⟨y0, y0'⟩, ⟨y1, y1', t0, t1⟩, ⟨y2, y2', y3, y4⟩, y5, y6, y7, y8⟩, ⟨np, np1, np2, np3, np4⟩, hP, ⟨c, sl, l1, l2, l3, l4, l5⟩, hn, ⟨r6, rd0, rd1⟩, hb, hz⟩ := hQ
  have h5 := a1.1
  have h6 := lv6 a1
  refine ⟨⟨a1, ?_, ?_, ?_, ?_, ?_, fun v hv => ?_, fun v hv => ?_⟩, ⟨b1, ?_, ?_, fun i hi => ?_, b5⟩, ⟨⟨?_, ?_⟩, ⟨?_, ?_, t0, t1⟩, ⟨?_, ?_, y3, y4⟩, ?_, ?_, ?_, ?_⟩, ⟨np, ?_, np2, np3, np4⟩, fun w hw => ?_, ⟨c, sl, l1, ?_, ?_, fun i hi => ?_, l5⟩, hn, ⟨?_, rd0, rd1⟩, hb, hz⟩
  · refine ⟨by rw [m0 3 (by decide)]; exact a2.1, fun v hv => ?_⟩
    obtain ⟨x1, x2, x3, x4, x5, x6⟩ := a2.2 v hv
    refine ⟨by rw [m1 1 (by decide) (by decide) v (by omega)]; exact x1, by rw [m1 2 (by decide) (by decide) v (by omega)]; exact x2, by rw [m1 3 (by decide) (by decide) v (by omega)]; exact x3, by rw [m1 4 (by decide) (by decide) v (by omega)]; exact x4, by rw [m1 6 (by decide) (by decide) v (by omega)]; exact x5, fun k hk => ?_⟩
    have := h6 v hv
    exact ⟨by rw [m8 8 (by decide) (by decide) _ (by omega)]; exact (x6 k hk).1, by rw [m8 9 (by decide) (by decide) _ (by omega)]; exact (x6 k hk).2⟩
  · exact RV_cells a3 h5 h6 (e2 14 (by decide) (by decide)) e3 e4 (fun i hi => e6 i (by omega))
  · rw [m0 1 (by decide), e2 12 (by decide) (by decide)]; exact a4
  · rw [m0 2 (by decide), e2 13 (by decide) (by decide)]; exact a5
  · rw [m0 0 (by decide), e6 35 (by decide)]; exact a6
  · rw [m1 5 (by decide) (by decide) v (by omega), e3]; exact a7 v hv
  · rw [m1 7 (by decide) (by decide) v (by omega), e6 (43 + v) (by omega)]; exact a8 v hv
  · rw [m0 4 (by decide)]; exact b2
  · rw [e2 15 (by decide) (by decide)]; exact b3
  · rw [m10 10 (by decide) (by decide) i (by omega), m10 11 (by decide) (by decide) i (by omega), m10 12 (by decide) (by decide) i (by omega), e5]; exact b4 i hi
  · rw [r0 0 (by decide)]; exact y0
  · rw [e6 36 (by decide)]; exact y0'
  · rw [r0 1 (by decide)]; exact y1
  · rw [e6 37 (by decide)]; exact y1'
  · rw [r0 2 (by decide)]; exact y2
  · rw [e6 38 (by decide)]; exact y2'
  · rw [r0 3 (by decide), e6 39 (by decide)]; exact y5
  · rw [r0 4 (by decide), e6 40 (by decide)]; exact y6
  · rw [r0 5 (by decide), e6 41 (by decide)]; exact y7
  · rw [r0 6 (by decide), e6 42 (by decide)]; exact y8
  · rw [r0 7 (by decide)]; exact np1
  · have q := hP w hw
    unfold QP at q ⊢
    rw [r1 1 (by decide) (by decide) w (by omega), r1 2 (by decide) (by decide) w (by omega), r1 3 (by decide) (by decide) w (by omega), r1 4 (by decide) (by decide) w (by omega), r1 5 (by decide) (by decide) w (by omega), r1 6 (by decide) (by decide) w (by omega), r1 7 (by decide) (by decide) w (by omega), r1 8 (by decide) (by decide) w (by omega),
      e6 (48 + 8 * w) (by omega), e6 (49 + 8 * w) (by omega), e6 (50 + 8 * w) (by omega), e6 (51 + 8 * w) (by omega), e6 (52 + 8 * w) (by omega), e6 (53 + 8 * w) (by omega), e6 (54 + 8 * w) (by omega), e6 (55 + 8 * w) (by omega), e3]
    exact q
  · rw [r9]; exact l2
  · rw [e6 88 (by decide)]; exact l3
  · rw [show r' + 9 + 1 = r' + 10 from rfl, show r' + 9 + 2 = r' + 11 from rfl, show r' + 9 + 3 = r' + 12 from rfl, r10 10 (by decide) (by decide) i (by omega), r10 11 (by decide) (by decide) i (by omega), r10 12 (by decide) (by decide) i (by omega), e6 (89 + 3 * i) (by omega), e6 (90 + 3 * i) (by omega), e6 (91 + 3 * i) (by omega)]
    exact l4 i hi
  · rw [r0 6 (by decide)]; exact r6
end
