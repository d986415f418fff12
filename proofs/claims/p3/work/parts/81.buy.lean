/-! PURE: what a resting part buys -/
def dz (d : MD) (i : Nat) (x : Int) : MD := (d.1, d.2.1, d.2.2.1, fun j => if j = i then x else d.2.2.2 j)
theorem MDok_dz {d : MD} {V i : Nat} {x : Int} (h : MDok d V) (h1 : 0 ≤ x) (h2 : x ≤ 99) : MDok (dz d i x) V := by
  refine ⟨h.1, fun v hv => ?_⟩
  obtain ⟨a, b, c, e, f, g⟩ := h.2 v hv
  refine ⟨a, b, c, e, f, fun j g1 g2 => ?_⟩
  obtain ⟨s1, s2, p1, p2⟩ := g j g1 g2
  show 0 ≤ (if j = i then x else d.sz j) ∧ (if j = i then x else d.sz j) ≤ 99 ∧ _
  split
  · exact ⟨h1, h2, p1, p2⟩
  · exact ⟨s1, s2, p1, p2⟩
theorem CV_rows {m : Nat} {σ τ : Wd} {V : Nat} {d : MD} (h : CV m σ V d) (e : ∀ k, m ≤ k → k ≤ m + 9 → τ.1 k = σ.1 k) : CV m τ V d := by
  unfold CV at h ⊢
  rw [e m (by omega) (by omega), e (m + 1) (by omega) (by omega), e (m + 2) (by omega) (by omega), e (m + 3) (by omega) (by omega), e (m + 4) (by omega) (by omega), e (m + 6) (by omega) (by omega), e (m + 8) (by omega) (by omega), e (m + 9) (by omega) (by omega)]
  exact h
theorem CV_dz {m : Nat} {σ : Wd} {V i : Nat} {d : MD} {x : Int} (h : CV m σ V d) : CV m (wi σ (m + 9) i (I x)) V (dz d i x) := by
  refine ⟨by rw [wi_row (by omega)]; exact h.1, fun v hv => ?_⟩
  obtain ⟨a, b, c, e, f, g⟩ := h.2 v hv
  rw [wi_row (show m + 1 ≠ m + 9 by omega), wi_row (show m + 2 ≠ m + 9 by omega), wi_row (show m + 3 ≠ m + 9 by omega), wi_row (show m + 4 ≠ m + 9 by omega), wi_row (show m + 6 ≠ m + 9 by omega), wi_row (show m + 8 ≠ m + 9 by omega)]
  refine ⟨a, b, c, e, f, fun k hk => ⟨(g k hk).1, ?_⟩⟩
  show _ = I (if 6 * v + k = i then x else d.sz (6 * v + k))
  by_cases q : 6 * v + k = i
  · rw [if_pos q, q, wi_eq]
  · rw [if_neg q, wi_ne q]; exact (g k hk).2
theorem RV_dz {τ : Wd} {V i : Nat} {d : MD} {x : Int} (h : RV τ V d) (hi : i < 30) : RV (wi τ 112 i (I x)) V (dz d i x) := by
  refine ⟨by rw [wi_row (by decide)]; exact h.1, fun v hv => ?_⟩
  obtain ⟨a, b, c, e, f, g⟩ := h.2 v hv
  rw [wi_row (show 103 ≠ 112 by decide), wi_ne (show 30 + v ≠ i by omega), wi_row (show 104 ≠ 112 by decide)]
  refine ⟨a, b, c, e, f, fun k hk => ⟨(g k hk).1, ?_⟩⟩
  show _ = I (if 6 * v + k = i then x else d.sz (6 * v + k))
  by_cases q : 6 * v + k = i
  · rw [if_pos q, q, wi_eq]
  · rw [if_neg q, wi_ne q]; exact (g k hk).2
theorem RV_wi {τ : Wd} {V j : Nat} {d : MD} {x : Int32} (h : RV τ V d) (hV : V ≤ 5) (hl : ∀ v, v < V → d.lv v ≤ 6) (hj : 35 ≤ j) : RV (wi τ 112 j x) V d := by
  refine ⟨by rw [wi_row (by decide)]; exact h.1, fun v hv => ?_⟩
  obtain ⟨a, b, c, e, f, g⟩ := h.2 v hv
  have := hl v hv
  rw [wi_row (show 103 ≠ 112 by decide), wi_ne (show 30 + v ≠ j by omega), wi_row (show 104 ≠ 112 by decide)]
  refine ⟨a, b, c, e, f, fun k hk => ⟨(g k hk).1, ?_⟩⟩
  rw [wi_ne (show 6 * v + k ≠ j by omega)]
  exact (g k hk).2
theorem RV_cells {τ τ' : Wd} {V : Nat} {d : MD} (h : RV τ V d) (hV : V ≤ 5) (hl : ∀ v, v < V → d.lv v ≤ 6) (e1 : τ'.1 102 14 = τ.1 102 14) (e2 : τ'.1 103 = τ.1 103) (e3 : τ'.1 104 = τ.1 104) (e4 : ∀ i, i < 35 → τ'.1 112 i = τ.1 112 i) : RV τ' V d := by
  refine ⟨by rw [e1]; exact h.1, fun v hv => ?_⟩
  obtain ⟨a, b, c, e, f, g⟩ := h.2 v hv
  have := hl v hv
  rw [e2, e4 (30 + v) (by omega), e3]
  refine ⟨a, b, c, e, f, fun k hk => ⟨(g k hk).1, ?_⟩⟩
  rw [e4 (6 * v + k) (by omega)]
  exact (g k hk).2
theorem lv6 {d : MD} {V : Nat} (h : MDok d V) : ∀ v, v < V → d.lv v ≤ 6 := fun v hv => (h.2 v hv).2.2.2.2.1
def ts (sz : Nat → Int) : Nat → Nat → Int
  | 0, _ => 0
  | r + 1, i => sz i + ts sz r (i + 1)
theorem uz_ts {pr sz : Nat → Int} {p : Int} : ∀ (r i : Nat), lvOk pr sz r i → uz pr sz p r i ≤ ts sz r i
  | 0, _, _ => Int.le_refl _
  | r + 1, i, h => by
    have ih := uz_ts (p := p) r (i + 1) (fun j q1 q2 => h j (by omega) (by omega))
    obtain ⟨s1, -⟩ := h i (by omega) (by omega)
    unfold uz ts
    split <;> omega
theorem ts_congr {sz sz' : Nat → Int} : ∀ (r i : Nat), (∀ j, i ≤ j → sz' j = sz j) → ts sz' r i = ts sz r i
  | 0, _, _ => rfl
  | r + 1, i, h => by
    unfold ts
    rw [h i (Nat.le_refl _), ts_congr r (i + 1) (fun j hj => h j (by omega))]
theorem ts_nn {pr sz : Nat → Int} : ∀ (r i : Nat), lvOk pr sz r i → 0 ≤ ts sz r i
  | 0, _, _ => Int.le_refl _
  | r + 1, i, h => by
    have ih := ts_nn r (i + 1) (fun j q1 q2 => h j (by omega) (by omega))
    obtain ⟨s1, -⟩ := h i (by omega) (by omega)
    unfold ts
    omega
theorem addI0 (x : Int32) : x + I 0 = x := Int32.add_zero x
theorem addI2 (x : Int32) (a b : Int) : x + I a + I b = x + I (a + b) := by rw [Int32.add_assoc, I_add]
set_option maxHeartbeats 2000000 in
theorem buy_loop {m r V v : Nat} {x5 : Int32} (hm : 10 < m) (hmr : m + 12 < r) (hv : v < V) :
    ∀ (rr k n1 n2 : Nat) (left z : Int) (d : MD) (σ τ : Wd), z = (k : Int) → k + rr = d.lv v → rr < n1 → rr < n2 → 0 ≤ left → left ≤ 120 → left ≤ ts d.sz rr (6 * v + k) → MDok d V → CV m σ V d → RV τ V d → LR (r + 9) σ τ V d →
    ∃ (σ' τ' : Wd) (d' : MD) (pay : Int32), f_X4_buy_57 r m n1 (I (v : Int)) (I left) (I z) σ = some (0, σ') ∧ f_X7_buys_71 n2 (I (v : Int)) (I (48 + 8 * (v : Int))) x5 (I left) (I z) τ = f_X7_buys_208 (I (48 + 8 * (v : Int))) x5 τ'
      ∧ MDok d' V ∧ CV m σ' V d' ∧ RV τ' V d' ∧ LR (r + 9) σ' τ' V d' ∧ (d'.1 = d.1 ∧ d'.lv = d.lv ∧ d'.pr = d.pr)
      ∧ (σ'.1 (r + 3) v = σ.1 (r + 3) v + I left ∧ σ'.1 r 3 = σ.1 r 3 + I left ∧ σ'.1 (r + 4) v = σ.1 (r + 4) v + pay ∧ σ'.1 r 4 = σ.1 r 4 + pay ∧ τ'.1 112 (55 + 8 * v) = τ.1 112 (55 + 8 * v) + pay ∧ τ'.1 112 40 = τ.1 112 40 + pay)
      ∧ ((∀ i, i ≠ 3 → i ≠ 4 → σ'.1 r i = σ.1 r i) ∧ (∀ w, w ≠ v → σ'.1 (r + 3) w = σ.1 (r + 3) w ∧ σ'.1 (r + 4) w = σ.1 (r + 4) w) ∧ (∀ k, k ≠ m + 9 → k ≠ r → k ≠ r + 3 → k ≠ r + 4 → k < r + 9 ∨ r + 12 < k → σ'.1 k = σ.1 k) ∧ σ'.2 = σ.2)
      ∧ ((∀ k, k ≠ 112 → τ'.1 k = τ.1 k) ∧ (∀ i, 30 ≤ i → i < 88 → i ≠ 40 → i ≠ 55 + 8 * v → τ'.1 112 i = τ.1 112 i) ∧ τ'.2 = τ.2)
  | 0, k, n1 + 1, n2 + 1, left, z, d, σ, τ, hz, hk, _, _, l0, l1, hts, hd, hc, hr, hL => by
    have v5 : v < 5 := Nat.lt_of_lt_of_le hv hd.1
    have l6 := lv6 hd v hv
    have hts : left ≤ 0 := hts
    have e0 : left = 0 := by omega
    subst e0
    have e1 := (hc.2 v hv).2.2.2.2.1
    have e2 := (hr.2 v hv).2.2.2.2.1
    refine ⟨σ, τ, d, I 0, ?_, ?_, hd, hc, hr, hL, ⟨rfl, rfl, rfl⟩, ⟨(addI0 _).symm, (addI0 _).symm, (addI0 _).symm, (addI0 _).symm, (addI0 _).symm, (addI0 _).symm⟩, ⟨fun _ _ _ => rfl, fun _ _ => ⟨rfl, rfl⟩, fun _ _ _ _ _ _ => rfl, rfl⟩, ⟨fun _ _ => rfl, fun _ _ _ _ _ => rfl, rfl⟩⟩
    · rw [f_X4_buy_57]
      simp (disch := omega) only [gd_t, bd_s, nm_W, nm_I, I_add, I_sub, I_mul, I_neg, I_le_t, I_le_f, I_lt_t, I_lt_f, I_eq_t, I_eq_f, I_inb', I_ix', Int.toNat_natCast, decide_true, decide_false, Bool.not_false, Bool.not_true, if_true, if_false, wi_eq, wi_eq', wi_ne, wi_row, wi_2, N0, N1, N2, N3, N4, N5, N6, N7, N8, N9, N10, N11, N12, N13, N14, N15, N16, N17, N18, N19, N20, N21, N22, N23, N24, N25, N26, N27, N28, N29, N30, N31, N32, N33, N34, N35, N36, N37, N38, N39, N40, N41, N42, N43, N45, N48, N57, N59, N88, N89, N97, N99, N120, N121, N122, N179, N200, N255, N300, N400, N880, N900, N999, N1019, N50000000, N100000000, N1000000000, N2147483647, N2147483648, e1, f_X4_buy_214]
    · rw [f_X7_buys_71]
      simp (disch := omega) only [gd_t, bd_s, nm_W, nm_I, I_add, I_sub, I_mul, I_neg, I_le_t, I_le_f, I_lt_t, I_lt_f, I_eq_t, I_eq_f, I_inb', I_ix', Int.toNat_natCast, decide_true, decide_false, Bool.not_false, Bool.not_true, if_true, if_false, wi_eq, wi_eq', wi_ne, wi_row, wi_2, N0, N1, N2, N3, N4, N5, N6, N7, N8, N9, N10, N11, N12, N13, N14, N15, N16, N17, N18, N19, N20, N21, N22, N23, N24, N25, N26, N27, N28, N29, N30, N31, N32, N33, N34, N35, N36, N37, N38, N39, N40, N41, N42, N43, N45, N48, N57, N59, N88, N89, N97, N99, N120, N121, N122, N179, N200, N255, N300, N400, N880, N900, N999, N1019, N50000000, N100000000, N1000000000, N2147483647, N2147483648, levels7 (σ := τ) v5, e2]
  | rr + 1, k, n1 + 1, n2 + 1, left, z, d, σ, τ, hz, hk, hn1, hn2, l0, l1, hts, hd, hc, hr, hL => by
    subst hz
    have v5 : v < 5 := Nat.lt_of_lt_of_le hv hd.1
    have l6 := lv6 hd v hv
    have kl : k < d.lv v := by omega
    have e1 := (hc.2 v hv).2.2.2.2.1
    have e2 := (hr.2 v hv).2.2.2.2.1
    obtain ⟨ep, es⟩ := (hc.2 v hv).2.2.2.2.2 k kl
    obtain ⟨rp, rs⟩ := (hr.2 v hv).2.2.2.2.2 k kl
    obtain ⟨s1, s2, p1, p2⟩ := lvOk_at hd hv kl
    have p7 := price7 (σ := τ) v5 (show k < 6 by omega)
    have s7 := size7 (σ := τ) v5 (show k < 6 by omega)
    rw [rp] at p7
    rw [rs] at s7
    have ts1 : ((v : Int) * 6 + (k : Int)).toNat = 6 * v + k := by omega
    have ts2 : ((0 : Int) + 6 * (v : Int) + (k : Int)).toNat = 6 * v + k := by omega
    have t7 : ((48 : Int) + 8 * (v : Int) + 7).toNat = 55 + 8 * v := by omega
    have t40 : Int.toNat 40 = 40 := rfl
    by_cases c0 : left ≤ 0
    · have e0 : left = 0 := by omega
      subst e0
      refine ⟨σ, τ, d, I 0, ?_, ?_, hd, hc, hr, hL, ⟨rfl, rfl, rfl⟩, ⟨(addI0 _).symm, (addI0 _).symm, (addI0 _).symm, (addI0 _).symm, (addI0 _).symm, (addI0 _).symm⟩, ⟨fun _ _ _ => rfl, fun _ _ => ⟨rfl, rfl⟩, fun _ _ _ _ _ _ => rfl, rfl⟩, ⟨fun _ _ => rfl, fun _ _ _ _ _ => rfl, rfl⟩⟩
      · rw [f_X4_buy_57]
        simp (disch := omega) only [gd_t, bd_s, nm_W, nm_I, I_add, I_sub, I_mul, I_neg, I_le_t, I_le_f, I_lt_t, I_lt_f, I_eq_t, I_eq_f, I_inb', I_ix', Int.toNat_natCast, decide_true, decide_false, Bool.not_false, Bool.not_true, if_true, if_false, wi_eq, wi_eq', wi_ne, wi_row, wi_2, N0, N1, N2, N3, N4, N5, N6, N7, N8, N9, N10, N11, N12, N13, N14, N15, N16, N17, N18, N19, N20, N21, N22, N23, N24, N25, N26, N27, N28, N29, N30, N31, N32, N33, N34, N35, N36, N37, N38, N39, N40, N41, N42, N43, N45, N48, N57, N59, N88, N89, N97, N99, N120, N121, N122, N179, N200, N255, N300, N400, N880, N900, N999, N1019, N50000000, N100000000, N1000000000, N2147483647, N2147483648, e1, f_X4_buy_214]
      · rw [f_X7_buys_71]
        simp (disch := omega) only [gd_t, bd_s, nm_W, nm_I, I_add, I_sub, I_mul, I_neg, I_le_t, I_le_f, I_lt_t, I_lt_f, I_eq_t, I_eq_f, I_inb', I_ix', Int.toNat_natCast, decide_true, decide_false, Bool.not_false, Bool.not_true, if_true, if_false, wi_eq, wi_eq', wi_ne, wi_row, wi_2, N0, N1, N2, N3, N4, N5, N6, N7, N8, N9, N10, N11, N12, N13, N14, N15, N16, N17, N18, N19, N20, N21, N22, N23, N24, N25, N26, N27, N28, N29, N30, N31, N32, N33, N34, N35, N36, N37, N38, N39, N40, N41, N42, N43, N45, N48, N57, N59, N88, N89, N97, N99, N120, N121, N122, N179, N200, N255, N300, N400, N880, N900, N999, N1019, N50000000, N100000000, N1000000000, N2147483647, N2147483648, levels7 (σ := τ) v5, e2]
    · have key : ∀ n : Int, 0 < n → n ≤ left → n ≤ d.sz (6 * v + k) → (n = left ∨ n = d.sz (6 * v + k)) →
          ∃ (σ' τ' : Wd) (d' : MD) (pay : Int32), f_X4_buy_105 r m (f_X4_buy_57 r m n1) (I (v : Int)) (I left) (I (k : Int)) (I ((v : Int) * 6 + (k : Int))) (I n) σ = some (0, σ') ∧ f_X7_buys_110 (f_X7_buys_71 n2) (I (v : Int)) (I (48 + 8 * (v : Int))) x5 (I left) (I (k : Int)) (I n) τ = f_X7_buys_208 (I (48 + 8 * (v : Int))) x5 τ'
            ∧ MDok d' V ∧ CV m σ' V d' ∧ RV τ' V d' ∧ LR (r + 9) σ' τ' V d' ∧ (d'.1 = d.1 ∧ d'.lv = d.lv ∧ d'.pr = d.pr)
            ∧ (σ'.1 (r + 3) v = σ.1 (r + 3) v + I left ∧ σ'.1 r 3 = σ.1 r 3 + I left ∧ σ'.1 (r + 4) v = σ.1 (r + 4) v + pay ∧ σ'.1 r 4 = σ.1 r 4 + pay ∧ τ'.1 112 (55 + 8 * v) = τ.1 112 (55 + 8 * v) + pay ∧ τ'.1 112 40 = τ.1 112 40 + pay)
            ∧ ((∀ i, i ≠ 3 → i ≠ 4 → σ'.1 r i = σ.1 r i) ∧ (∀ w, w ≠ v → σ'.1 (r + 3) w = σ.1 (r + 3) w ∧ σ'.1 (r + 4) w = σ.1 (r + 4) w) ∧ (∀ k, k ≠ m + 9 → k ≠ r → k ≠ r + 3 → k ≠ r + 4 → k < r + 9 ∨ r + 12 < k → σ'.1 k = σ.1 k) ∧ σ'.2 = σ.2)
            ∧ ((∀ k, k ≠ 112 → τ'.1 k = τ.1 k) ∧ (∀ i, 30 ≤ i → i < 88 → i ≠ 40 → i ≠ 55 + 8 * v → τ'.1 112 i = τ.1 112 i) ∧ τ'.2 = τ.2) := by
        intro n n0 nl ns nor
        obtain ⟨d1, hd1⟩ : ∃ d1, d1 = dz d (6 * v + k) (d.sz (6 * v + k) - n) := ⟨_, rfl⟩
        have d1l : d1.lv = d.lv := by rw [hd1]; rfl
        have d1p : d1.pr = d.pr := by rw [hd1]; rfl
        have d11 : d1.1 = d.1 := by rw [hd1]; rfl
        have ok1 : MDok d1 V := by rw [hd1]; exact MDok_dz hd (by omega) (by omega)
        obtain ⟨σ1, hσ1⟩ : ∃ s, s = wi (wi (wi (wi (wi σ (m + 9) (6 * v + k) (I (d.sz (6 * v + k) - n))) (r + 3) v (σ.1 (r + 3) v + I n)) r 3 (σ.1 r 3 + I n)) (r + 4) v (σ.1 (r + 4) v + I (n * d.pr (6 * v + k)))) r 4 (σ.1 r 4 + I (n * d.pr (6 * v + k))) := ⟨_, rfl⟩
        obtain ⟨τ1, hτ1⟩ : ∃ s, s = wi (wi (wi τ 112 (6 * v + k) (I (d.sz (6 * v + k) - n))) 112 (55 + 8 * v) (τ.1 112 (55 + 8 * v) + I (n * d.pr (6 * v + k)))) 112 40 (τ.1 112 40 + I (n * d.pr (6 * v + k))) := ⟨_, rfl⟩
        have fσ1 : ∀ k, k ≠ m + 9 → k ≠ r → k ≠ r + 3 → k ≠ r + 4 → σ1.1 k = σ.1 k := fun k h1 h2 h3 h4 => by rw [hσ1]; simp (disch := omega) only [wi_eq, wi_eq', wi_ne, wi_row, wi_2]
        have cv1 : CV m σ1 V d1 := by
          rw [hd1]
          exact CV_rows (CV_dz (i := 6 * v + k) (x := d.sz (6 * v + k) - n) hc) (fun a h1 h2 => by rw [hσ1]; simp (disch := omega) only [wi_eq, wi_eq', wi_ne, wi_row, wi_2])
        have rv1 : RV τ1 V d1 := by
          have q := RV_dz (i := 6 * v + k) (x := d.sz (6 * v + k) - n) hr (by omega)
          rw [← hd1] at q
          rw [hτ1]
          exact RV_wi (RV_wi q ok1.1 (lv6 ok1) (by omega)) ok1.1 (lv6 ok1) (by omega)
        have lr1 : LR (r + 9) σ1 τ1 V d1 := LR_congr hL d1l d1p (fun k h1 h2 => fσ1 k (by omega) (by omega) (by omega) (by omega)) (fun i hi => by rw [hτ1]; simp (disch := omega) only [wi_eq, wi_eq', wi_ne, wi_row, wi_2])
        obtain ⟨σ2, τ2, b1, b2, b3, b4, b5, b6, b7, b8⟩ := note_ok (x3 := I n) ok1 hv (show k < d1.lv v by rw [d1l]; exact kl) lr1
        rw [d1p] at b1 b2
        have cv2 : CV m σ2 V d1 := CV_rows cv1 (fun k h1 h2 => b4 k (by omega))
        have rv2 : RV τ2 V d1 := RV_cells rv1 ok1.1 (lv6 ok1) (by rw [b6 102 (by decide)]) (b6 103 (by decide)) (b6 104 (by decide)) (fun i hi => b7 i (by omega))
        have tnn := ts_nn rr (6 * v + k + 1) (fun j q1 q2 => (hd.2 v hv).2.2.2.2.2 j (by omega) (by omega))
        have hts' : left ≤ d.sz (6 * v + k) + ts d.sz rr (6 * v + k + 1) := hts
        have tcg : ts d1.sz rr (6 * v + k + 1) = ts d.sz rr (6 * v + k + 1) := ts_congr rr _ (fun j hj => by
          rw [hd1]
          show (if j = 6 * v + k then _ else d.sz j) = d.sz j
          rw [if_neg (by omega)])
        obtain ⟨σ', τ', d', pay, q1, q2, q3, q4, q5, q6, ⟨q7, q8, q9⟩, ⟨g1, g2, g3, g4, g5, g6⟩, ⟨f1, f2, f3, f4⟩, ⟨f5, f6, f7⟩⟩ := buy_loop (x5 := x5) hm hmr hv rr (k + 1) n1 n2 (left - n) ((k : Int) + 1) d1 σ2 τ2 (by omega) (by rw [d1l]; omega) (by omega) (by omega) (by omega) (by omega)
          (by rw [show 6 * v + (k + 1) = 6 * v + k + 1 from rfl, tcg]; rcases nor with e | e <;> omega) ok1 cv2 rv2 b3
        have f8 : σ1.1 (m + 8) (6 * v + k) = I (d.pr (6 * v + k)) := by rw [hσ1]; simp (disch := omega) only [wi_eq, wi_eq', wi_ne, wi_row, wi_2]; exact ep
        refine ⟨σ', τ', d', I (n * d.pr (6 * v + k)) + pay, ?_, ?_, q3, q4, q5, q6, ⟨by rw [q7, d11], by rw [q8, d1l], by rw [q9, d1p]⟩, ⟨?_, ?_, ?_, ?_, ?_, ?_⟩, ⟨fun i h1 h2 => ?_, fun w hw => ⟨?_, ?_⟩, fun k' h1 h2 h3 h4 h5 => ?_, ?_⟩, ⟨fun k' hk' => ?_, fun i h1 h2 h3 h4 => ?_, ?_⟩⟩
        · rw [← q1]
          unfold f_X4_buy_105
          simp (disch := omega) only [gd_t, bd_s, nm_W, nm_I, I_add, I_sub, I_mul, I_neg, I_le_t, I_le_f, I_lt_t, I_lt_f, I_eq_t, I_eq_f, I_inb', I_ix', Int.toNat_natCast, decide_true, decide_false, Bool.not_false, Bool.not_true, if_true, if_false, wi_eq, wi_eq', wi_ne, wi_row, wi_2, N0, N1, N2, N3, N4, N5, N6, N7, N8, N9, N10, N11, N12, N13, N14, N15, N16, N17, N18, N19, N20, N21, N22, N23, N24, N25, N26, N27, N28, N29, N30, N31, N32, N33, N34, N35, N36, N37, N38, N39, N40, N41, N42, N43, N45, N48, N57, N59, N88, N89, N97, N99, N120, N121, N122, N179, N200, N255, N300, N400, N880, N900, N999, N1019, N50000000, N100000000, N1000000000, N2147483647, N2147483648, ts1, es, ep, ← hσ1, f8, b1, f_X4_buy_208]
        · rw [← q2]
          unfold f_X7_buys_110
          simp (disch := omega) only [gd_t, bd_s, nm_W, nm_I, I_add, I_sub, I_mul, I_neg, I_le_t, I_le_f, I_lt_t, I_lt_f, I_eq_t, I_eq_f, I_inb', I_ix', Int.toNat_natCast, decide_true, decide_false, Bool.not_false, Bool.not_true, if_true, if_false, wi_eq, wi_eq', wi_ne, wi_row, wi_2, N0, N1, N2, N3, N4, N5, N6, N7, N8, N9, N10, N11, N12, N13, N14, N15, N16, N17, N18, N19, N20, N21, N22, N23, N24, N25, N26, N27, N28, N29, N30, N31, N32, N33, N34, N35, N36, N37, N38, N39, N40, N41, N42, N43, N45, N48, N57, N59, N88, N89, N97, N99, N120, N121, N122, N179, N200, N255, N300, N400, N880, N900, N999, N1019, N50000000, N100000000, N1000000000, N2147483647, N2147483648, ts2, t7, t40, rs, rp, price7 (v := v) (k := k) v5 (by omega), ← hτ1, b2, f_X7_buys_202]
        · rw [g1, b4 (r + 3) (by omega), hσ1]
          simp (disch := omega) only [wi_eq, wi_eq', wi_ne, wi_row, wi_2]
          rw [addI2, show n + (left - n) = left from by omega]
        · rw [g2, b4 r (by omega), hσ1]
          simp (disch := omega) only [wi_eq, wi_eq', wi_ne, wi_row, wi_2]
          rw [addI2, show n + (left - n) = left from by omega]
        · rw [g3, b4 (r + 4) (by omega), hσ1]
          simp (disch := omega) only [wi_eq, wi_eq', wi_ne, wi_row, wi_2]
          rw [Int32.add_assoc]
        · rw [g4, b4 r (by omega), hσ1]
          simp (disch := omega) only [wi_eq, wi_eq', wi_ne, wi_row, wi_2]
          rw [Int32.add_assoc]
        · rw [g5, b7 (55 + 8 * v) (by omega), hτ1]
          simp (disch := omega) only [wi_eq, wi_eq', wi_ne, wi_row, wi_2]
          rw [Int32.add_assoc]
        · rw [g6, b7 40 (by omega), hτ1]
          simp (disch := omega) only [wi_eq, wi_eq', wi_ne, wi_row, wi_2]
          rw [Int32.add_assoc]
        · rw [f1 i h1 h2, b4 r (by omega), hσ1]
          simp (disch := omega) only [wi_eq, wi_eq', wi_ne, wi_row, wi_2]
        · rw [(f2 w hw).1, b4 (r + 3) (by omega), hσ1]
          simp (disch := omega) only [wi_eq, wi_eq', wi_ne, wi_row, wi_2]
        · rw [(f2 w hw).2, b4 (r + 4) (by omega), hσ1]
          simp (disch := omega) only [wi_eq, wi_eq', wi_ne, wi_row, wi_2]
        · rw [f3 k' h1 h2 h3 h4 h5, b4 k' (by omega), fσ1 k' h1 h2 h3 h4]
        · rw [f4, b5, hσ1]
          simp (disch := omega) only [wi_eq, wi_eq', wi_ne, wi_row, wi_2]
        · rw [f5 k' hk', b6 k' hk', hτ1]
          simp (disch := omega) only [wi_eq, wi_eq', wi_ne, wi_row, wi_2]
        · rw [f6 i h1 h2 h3 h4, b7 i (by omega), hτ1]
          simp (disch := omega) only [wi_eq, wi_eq', wi_ne, wi_row, wi_2]
        · rw [f7, b8, hτ1]
          simp (disch := omega) only [wi_eq, wi_eq', wi_ne, wi_row, wi_2]
      by_cases c1 : d.sz (6 * v + k) ≤ 0
      · have ih := buy_loop (x5 := x5) hm hmr hv rr (k + 1) n1 n2 left ((k : Int) + 1) d σ τ (by omega) (by omega) (by omega) (by omega) l0 l1 (by have : left ≤ d.sz (6 * v + k) + ts d.sz rr (6 * v + k + 1) := hts; rw [show 6 * v + (k + 1) = 6 * v + k + 1 from rfl]; omega) hd hc hr hL
        obtain ⟨σ', τ', d', pay, q1, q2, q3⟩ := ih
        refine ⟨σ', τ', d', pay, ?_, ?_, q3⟩
        · rw [← q1, f_X4_buy_57]
          simp (disch := omega) only [gd_t, bd_s, nm_W, nm_I, I_add, I_sub, I_mul, I_neg, I_le_t, I_le_f, I_lt_t, I_lt_f, I_eq_t, I_eq_f, I_inb', I_ix', Int.toNat_natCast, decide_true, decide_false, Bool.not_false, Bool.not_true, if_true, if_false, wi_eq, wi_eq', wi_ne, wi_row, wi_2, N0, N1, N2, N3, N4, N5, N6, N7, N8, N9, N10, N11, N12, N13, N14, N15, N16, N17, N18, N19, N20, N21, N22, N23, N24, N25, N26, N27, N28, N29, N30, N31, N32, N33, N34, N35, N36, N37, N38, N39, N40, N41, N42, N43, N45, N48, N57, N59, N88, N89, N97, N99, N120, N121, N122, N179, N200, N255, N300, N400, N880, N900, N999, N1019, N50000000, N100000000, N1000000000, N2147483647, N2147483648, e1, f_X6_slot, ts1, es, f_X4_buy_105, f_X4_buy_208]
        · have s0 : d.sz (6 * v + k) = 0 := by omega
          rw [← q2, f_X7_buys_71]
          simp (disch := omega) only [gd_t, bd_s, nm_W, nm_I, I_add, I_sub, I_mul, I_neg, I_le_t, I_le_f, I_lt_t, I_lt_f, I_eq_t, I_eq_f, I_inb', I_ix', Int.toNat_natCast, decide_true, decide_false, Bool.not_false, Bool.not_true, if_true, if_false, wi_eq, wi_eq', wi_ne, wi_row, wi_2, N0, N1, N2, N3, N4, N5, N6, N7, N8, N9, N10, N11, N12, N13, N14, N15, N16, N17, N18, N19, N20, N21, N22, N23, N24, N25, N26, N27, N28, N29, N30, N31, N32, N33, N34, N35, N36, N37, N38, N39, N40, N41, N42, N43, N45, N48, N57, N59, N88, N89, N97, N99, N120, N121, N122, N179, N200, N255, N300, N400, N880, N900, N999, N1019, N50000000, N100000000, N1000000000, N2147483647, N2147483648, levels7 (σ := τ) v5, e2, s7, s0, f_X7_buys_110, f_X7_buys_202]
      · by_cases c2 : left ≤ d.sz (6 * v + k)
        · obtain ⟨σ', τ', d', pay, q1, q2, q3⟩ := key left (by omega) (by omega) c2 (Or.inl rfl)
          refine ⟨σ', τ', d', pay, ?_, ?_, q3⟩
          · rw [← q1, f_X4_buy_57]
            simp (disch := omega) only [gd_t, bd_s, nm_W, nm_I, I_add, I_sub, I_mul, I_neg, I_le_t, I_le_f, I_lt_t, I_lt_f, I_eq_t, I_eq_f, I_inb', I_ix', Int.toNat_natCast, decide_true, decide_false, Bool.not_false, Bool.not_true, if_true, if_false, wi_eq, wi_eq', wi_ne, wi_row, wi_2, N0, N1, N2, N3, N4, N5, N6, N7, N8, N9, N10, N11, N12, N13, N14, N15, N16, N17, N18, N19, N20, N21, N22, N23, N24, N25, N26, N27, N28, N29, N30, N31, N32, N33, N34, N35, N36, N37, N38, N39, N40, N41, N42, N43, N45, N48, N57, N59, N88, N89, N97, N99, N120, N121, N122, N179, N200, N255, N300, N400, N880, N900, N999, N1019, N50000000, N100000000, N1000000000, N2147483647, N2147483648, e1, f_X6_slot, ts1, es]
          · rw [← q2, f_X7_buys_71]
            by_cases c3 : d.sz (6 * v + k) = left
            · rw [c3] at s7
              simp (disch := omega) only [gd_t, bd_s, nm_W, nm_I, I_add, I_sub, I_mul, I_neg, I_le_t, I_le_f, I_lt_t, I_lt_f, I_eq_t, I_eq_f, I_inb', I_ix', Int.toNat_natCast, decide_true, decide_false, Bool.not_false, Bool.not_true, if_true, if_false, wi_eq, wi_eq', wi_ne, wi_row, wi_2, N0, N1, N2, N3, N4, N5, N6, N7, N8, N9, N10, N11, N12, N13, N14, N15, N16, N17, N18, N19, N20, N21, N22, N23, N24, N25, N26, N27, N28, N29, N30, N31, N32, N33, N34, N35, N36, N37, N38, N39, N40, N41, N42, N43, N45, N48, N57, N59, N88, N89, N97, N99, N120, N121, N122, N179, N200, N255, N300, N400, N880, N900, N999, N1019, N50000000, N100000000, N1000000000, N2147483647, N2147483648, levels7 (σ := τ) v5, e2, s7]
            · simp (disch := omega) only [gd_t, bd_s, nm_W, nm_I, I_add, I_sub, I_mul, I_neg, I_le_t, I_le_f, I_lt_t, I_lt_f, I_eq_t, I_eq_f, I_inb', I_ix', Int.toNat_natCast, decide_true, decide_false, Bool.not_false, Bool.not_true, if_true, if_false, wi_eq, wi_eq', wi_ne, wi_row, wi_2, N0, N1, N2, N3, N4, N5, N6, N7, N8, N9, N10, N11, N12, N13, N14, N15, N16, N17, N18, N19, N20, N21, N22, N23, N24, N25, N26, N27, N28, N29, N30, N31, N32, N33, N34, N35, N36, N37, N38, N39, N40, N41, N42, N43, N45, N48, N57, N59, N88, N89, N97, N99, N120, N121, N122, N179, N200, N255, N300, N400, N880, N900, N999, N1019, N50000000, N100000000, N1000000000, N2147483647, N2147483648, levels7 (σ := τ) v5, e2, s7]
        · obtain ⟨σ', τ', d', pay, q1, q2, q3⟩ := key (d.sz (6 * v + k)) (by omega) (by omega) (Int.le_refl _) (Or.inr rfl)
          refine ⟨σ', τ', d', pay, ?_, ?_, q3⟩
          · rw [← q1, f_X4_buy_57]
            simp (disch := omega) only [gd_t, bd_s, nm_W, nm_I, I_add, I_sub, I_mul, I_neg, I_le_t, I_le_f, I_lt_t, I_lt_f, I_eq_t, I_eq_f, I_inb', I_ix', Int.toNat_natCast, decide_true, decide_false, Bool.not_false, Bool.not_true, if_true, if_false, wi_eq, wi_eq', wi_ne, wi_row, wi_2, N0, N1, N2, N3, N4, N5, N6, N7, N8, N9, N10, N11, N12, N13, N14, N15, N16, N17, N18, N19, N20, N21, N22, N23, N24, N25, N26, N27, N28, N29, N30, N31, N32, N33, N34, N35, N36, N37, N38, N39, N40, N41, N42, N43, N45, N48, N57, N59, N88, N89, N97, N99, N120, N121, N122, N179, N200, N255, N300, N400, N880, N900, N999, N1019, N50000000, N100000000, N1000000000, N2147483647, N2147483648, e1, f_X6_slot, ts1, es]
          · rw [← q2, f_X7_buys_71]
            simp (disch := omega) only [gd_t, bd_s, nm_W, nm_I, I_add, I_sub, I_mul, I_neg, I_le_t, I_le_f, I_lt_t, I_lt_f, I_eq_t, I_eq_f, I_inb', I_ix', Int.toNat_natCast, decide_true, decide_false, Bool.not_false, Bool.not_true, if_true, if_false, wi_eq, wi_eq', wi_ne, wi_row, wi_2, N0, N1, N2, N3, N4, N5, N6, N7, N8, N9, N10, N11, N12, N13, N14, N15, N16, N17, N18, N19, N20, N21, N22, N23, N24, N25, N26, N27, N28, N29, N30, N31, N32, N33, N34, N35, N36, N37, N38, N39, N40, N41, N42, N43, N45, N48, N57, N59, N88, N89, N97, N99, N120, N121, N122, N179, N200, N255, N300, N400, N880, N900, N999, N1019, N50000000, N100000000, N1000000000, N2147483647, N2147483648, levels7 (σ := τ) v5, e2, s7]
