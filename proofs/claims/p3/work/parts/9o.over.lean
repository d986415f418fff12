/-! PURE: a market cleared, a run cleared, a text taken over -/
theorem cClr27 {b : Nat} : ∀ (r i n : Nat) (z : Int) (σ : Wd), z = (i : Int) → i + r = 5 → r < n → (∀ v, v < i → σ.1 (b + 6) v = I 0 ∧ σ.1 (b + 7) v = I 0) →
    ∃ σ', f_X3_clear_27 b n (I z) σ = some (0, σ') ∧ (∀ v, v < 5 → σ'.1 (b + 6) v = I 0 ∧ σ'.1 (b + 7) v = I 0) ∧ (∀ k, k ≠ b + 6 → k ≠ b + 7 → σ'.1 k = σ.1 k) ∧ σ'.2 = σ.2
  | 0, i, n + 1, z, σ, hz, hi, _, h => by
    refine ⟨σ, ?_, fun v hv => h v (by omega), fun _ _ _ => rfl, rfl⟩
    rw [f_X3_clear_27]
    simp (disch := omega) only [gd_t, bd_s, nm_W, nm_I, I_add, I_sub, I_mul, I_neg, I_le_t, I_le_f, I_lt_t, I_lt_f, I_eq_t, I_eq_f, I_inb', I_ix', Int.toNat_natCast, decide_true, decide_false, Bool.not_false, Bool.not_true, if_true, if_false, wi_eq, wi_eq', wi_ne, wi_row, wi_2, N0, N1, N2, N3, N4, N5, N6, N7, N8, N9, N10, N11, N12, N13, N14, N15, N16, N17, N18, N19, N20, N21, N22, N23, N24, N25, N26, N27, N28, N29, N30, N31, N32, N33, N34, N35, N36, N37, N38, N39, N40, N41, N42, N43, N45, N48, N57, N59, N88, N89, N97, N99, N120, N121, N122, N179, N200, N255, N300, N400, N880, N900, N999, N1019, N50000000, N100000000, N1000000000, N2147483647, N2147483648]
  | r + 1, i, n + 1, z, σ, hz, hi, hn, h => by
    have tz : z.toNat = i := by omega
    obtain ⟨σ', q1, q2, q3, q4⟩ := cClr27 (b := b) r (i + 1) n (z + 1) (wi (wi σ (b + 6) i (I 0)) (b + 7) i (I 0)) (by omega) (by omega) (by omega) (fun v hv => by
      by_cases c : v = i
      · rw [c, wi_row (by omega), wi_eq, wi_eq]; exact ⟨rfl, rfl⟩
      · rw [wi_row (by omega), wi_ne c, wi_ne c, wi_row (by omega)]; exact h v (by omega))
    refine ⟨σ', ?_, q2, fun k h1 h2 => by rw [q3 k h1 h2, wi_row h2, wi_row h1], by rw [q4, wi_2, wi_2]⟩
    rw [← q1, f_X3_clear_27]
    simp (disch := omega) only [gd_t, bd_s, nm_W, nm_I, I_add, I_sub, I_mul, I_neg, I_le_t, I_le_f, I_lt_t, I_lt_f, I_eq_t, I_eq_f, I_inb', I_ix', Int.toNat_natCast, decide_true, decide_false, Bool.not_false, Bool.not_true, if_true, if_false, wi_eq, wi_eq', wi_ne, wi_row, wi_2, N0, N1, N2, N3, N4, N5, N6, N7, N8, N9, N10, N11, N12, N13, N14, N15, N16, N17, N18, N19, N20, N21, N22, N23, N24, N25, N26, N27, N28, N29, N30, N31, N32, N33, N34, N35, N36, N37, N38, N39, N40, N41, N42, N43, N45, N48, N57, N59, N88, N89, N97, N99, N120, N121, N122, N179, N200, N255, N300, N400, N880, N900, N999, N1019, N50000000, N100000000, N1000000000, N2147483647, N2147483648, tz]
theorem cClear {m : Nat} {σ : Wd} : ∃ σ', f_X3_clear m σ = some (0, σ') ∧ (∀ i, i < 5 → σ'.1 m i = I 0) ∧ (∀ v, v < 5 → σ'.1 (m + 6) v = I 0 ∧ σ'.1 (m + 7) v = I 0) ∧ (∀ k, k ≠ m → k ≠ m + 6 → k ≠ m + 7 → σ'.1 k = σ.1 k) ∧ σ'.2 = σ.2 := by
  obtain ⟨σ', q1, q2, q3, q4⟩ := cClr27 (b := m) 5 0 FU 0 (wi (wi (wi (wi (wi σ m 0 (I 0)) m 1 (I 0)) m 2 (I 0)) m 3 (I 0)) m 4 (I 0)) rfl rfl (by decide) (fun v hv => absurd hv (by omega))
  refine ⟨σ', q1, fun i hi => ?_, q2, fun k h1 h2 h3 => ?_, by rw [q4]; rfl⟩
  · rw [q3 m (by omega) (by omega)]
    rcases (show i = 0 ∨ i = 1 ∨ i = 2 ∨ i = 3 ∨ i = 4 by omega) with c | c | c | c | c <;> subst c <;> simp (disch := omega) only [wi_eq, wi_eq', wi_ne, wi_row, wi_2]
  · rw [q3 k h2 h3, wi_row h1, wi_row h1, wi_row h1, wi_row h1, wi_row h1]
theorem cClr42 {r : Nat} : ∀ (q i n : Nat) (z : Int) (σ : Wd), z = (i : Int) → i + q = 5 → q < n → (∀ v, v < i → (∀ k, r + 1 ≤ k → k ≤ r + 6 → σ.1 k v = I 0) ∧ σ.1 (r + 7) v = I (-2) ∧ σ.1 (r + 8) v = I (-2)) →
    ∃ σ', f_X4_clear_42 r n (I z) σ = some (0, σ') ∧ (∀ v, v < 5 → (∀ k, r + 1 ≤ k → k ≤ r + 6 → σ'.1 k v = I 0) ∧ σ'.1 (r + 7) v = I (-2) ∧ σ'.1 (r + 8) v = I (-2)) ∧ σ'.1 (r + 9) 0 = I 0 ∧ (∀ k, k < r + 1 ∨ r + 9 < k → σ'.1 k = σ.1 k) ∧ σ'.2 = σ.2
  | 0, i, n + 1, z, σ, hz, hi, _, h => by
    refine ⟨wi σ (r + 9) 0 (I 0), ?_, fun v hv => ?_, wi_eq, fun k hk => wi_row (by omega), rfl⟩
    · rw [f_X4_clear_42]
      simp (disch := omega) only [gd_t, bd_s, nm_W, nm_I, I_add, I_sub, I_mul, I_neg, I_le_t, I_le_f, I_lt_t, I_lt_f, I_eq_t, I_eq_f, I_inb', I_ix', Int.toNat_natCast, decide_true, decide_false, Bool.not_false, Bool.not_true, if_true, if_false, wi_eq, wi_eq', wi_ne, wi_row, wi_2, N0, N1, N2, N3, N4, N5, N6, N7, N8, N9, N10, N11, N12, N13, N14, N15, N16, N17, N18, N19, N20, N21, N22, N23, N24, N25, N26, N27, N28, N29, N30, N31, N32, N33, N34, N35, N36, N37, N38, N39, N40, N41, N42, N43, N45, N48, N57, N59, N88, N89, N97, N99, N120, N121, N122, N179, N200, N255, N300, N400, N880, N900, N999, N1019, N50000000, N100000000, N1000000000, N2147483647, N2147483648]
    · obtain ⟨h1, h2, h3⟩ := h v (by omega)
      exact ⟨fun k k1 k2 => by rw [wi_row (by omega)]; exact h1 k k1 k2, by rw [wi_row (by omega)]; exact h2, by rw [wi_row (by omega)]; exact h3⟩
  | q + 1, i, n + 1, z, σ, hz, hi, hn, h => by
    have cd := cDrop (r := r) (v := i) (σ := σ) (by omega)
    obtain ⟨d1, d2, d3, d4, d5, d6, d7, d8⟩ := drop_at (r := r) (v := i) (σ := σ)
    obtain ⟨σ', q1, q2, q3, q4, q5⟩ := cClr42 (r := r) q (i + 1) n (z + 1) (dropW r i σ) (by omega) (by omega) (by omega) (fun v hv => by
      by_cases c : v = i
      · rw [c]
        refine ⟨fun k k1 k2 => ?_, d7, d8⟩
        rcases (show k = r + 1 ∨ k = r + 2 ∨ k = r + 3 ∨ k = r + 4 ∨ k = r + 5 ∨ k = r + 6 by omega) with e | e | e | e | e | e
        · rw [e]; exact d1
        · rw [e]; exact d2
        · rw [e]; exact d3
        · rw [e]; exact d4
        · rw [e]; exact d5
        · rw [e]; exact d6
      · obtain ⟨h1, h2, h3⟩ := h v (by omega)
        exact ⟨fun k k1 k2 => by rw [drop_ne c]; exact h1 k k1 k2, by rw [drop_ne c]; exact h2, by rw [drop_ne c]; exact h3⟩)
    refine ⟨σ', ?_, q2, q3, fun k hk => by rw [q4 k hk, drop_row (by omega)], by rw [q5, drop_2]⟩
    rw [← q1, f_X4_clear_42]
    subst hz
    clear h q2
    simp (disch := omega) only [gd_t, bd_s, nm_W, nm_I, I_add, I_sub, I_mul, I_neg, I_le_t, I_le_f, I_lt_t, I_lt_f, I_eq_t, I_eq_f, I_inb', I_ix', Int.toNat_natCast, decide_true, decide_false, Bool.not_false, Bool.not_true, if_true, if_false, wi_eq, wi_eq', wi_ne, wi_row, wi_2, N0, N1, N2, N3, N4, N5, N6, N7, N8, N9, N10, N11, N12, N13, N14, N15, N16, N17, N18, N19, N20, N21, N22, N23, N24, N25, N26, N27, N28, N29, N30, N31, N32, N33, N34, N35, N36, N37, N38, N39, N40, N41, N42, N43, N45, N48, N57, N59, N88, N89, N97, N99, N120, N121, N122, N179, N200, N255, N300, N400, N880, N900, N999, N1019, N50000000, N100000000, N1000000000, N2147483647, N2147483648, cd]
theorem cRunClr {σ : Wd} : ∃ σ', f_X4_clear 63 σ = some (0, σ') ∧ (∀ i, i < 8 → σ'.1 63 i = I 0) ∧ (∀ v, v < 5 → (∀ k, 64 ≤ k → k ≤ 69 → σ'.1 k v = I 0) ∧ σ'.1 70 v = I (-2) ∧ σ'.1 71 v = I (-2)) ∧ σ'.1 72 0 = I 0 ∧ (∀ k, k < 63 ∨ 72 < k → σ'.1 k = σ.1 k) ∧ σ'.2 = σ.2 := by
  obtain ⟨σ', q1, q2, q3, q4, q5⟩ := cClr42 (r := 63) 5 0 FU 0 (wi (wi (wi (wi (wi (wi (wi (wi σ 63 0 (I 0)) 63 1 (I 0)) 63 2 (I 0)) 63 3 (I 0)) 63 4 (I 0)) 63 5 (I 0)) 63 6 (I 0)) 63 7 (I 0)) rfl rfl (by decide) (fun v hv => absurd hv (by omega))
  refine ⟨σ', q1, fun i hi => ?_, q2, q3, fun k hk => ?_, by rw [q5]; rfl⟩
  · rw [q4 63 (by omega)]
    rcases (show i = 0 ∨ i = 1 ∨ i = 2 ∨ i = 3 ∨ i = 4 ∨ i = 5 ∨ i = 6 ∨ i = 7 by omega) with c | c | c | c | c | c | c | c <;> subst c <;> simp (disch := omega) only [wi_eq, wi_eq', wi_ne, wi_row, wi_2]
  · have h1 : k ≠ 63 := by omega
    rw [q4 k (by omega), wi_row h1, wi_row h1, wi_row h1, wi_row h1, wi_row h1, wi_row h1, wi_row h1, wi_row h1]
/-! the reference takes a text over -/
theorem tO44 : ∀ (r i n : Nat) (z : Int) (τ : Wd), z = (i : Int) → i + r = 25 → r < n → (∀ j, j < i → τ.1 103 j = τ.1 106 j) → ∃ τ', f_X7_takesOver_44 n (I z) τ = f_X7_takesOver_70 FU (I 0) τ' ∧ (∀ j, j < 25 → τ'.1 103 j = τ.1 106 j) ∧ (∀ k, k ≠ 103 → τ'.1 k = τ.1 k) ∧ τ'.2 = τ.2
  | 0, i, n + 1, z, τ, hz, hi, _, h => by
    refine ⟨τ, ?_, fun j hj => h j (by omega), fun _ _ => rfl, rfl⟩
    rw [f_X7_takesOver_44]
    have e25 : (25 : Int32) = I 25 := rfl
    simp (disch := omega) only [gd_t, bd_s, nm_W, nm_I, I_add, I_sub, I_mul, I_neg, I_le_t, I_le_f, I_lt_t, I_lt_f, I_eq_t, I_eq_f, I_inb', I_ix', Int.toNat_natCast, decide_true, decide_false, Bool.not_false, Bool.not_true, if_true, if_false, wi_eq, wi_eq', wi_ne, wi_row, wi_2, N0, N1, N2, N3, N4, N5, N6, N7, N8, N9, N10, N11, N12, N13, N14, N15, N16, N17, N18, N19, N20, N21, N22, N23, N24, N25, N26, N27, N28, N29, N30, N31, N32, N33, N34, N35, N36, N37, N38, N39, N40, N41, N42, N43, N45, N48, N57, N59, N88, N89, N97, N99, N120, N121, N122, N179, N200, N255, N300, N400, N880, N900, N999, N1019, N50000000, N100000000, N1000000000, N2147483647, N2147483648, e25]
  | r + 1, i, n + 1, z, τ, hz, hi, hn, h => by
    have tz : z.toNat = i := by omega
    obtain ⟨τ', q1, q2, q3, q4⟩ := tO44 r (i + 1) n (z + 1) (wi τ 103 i (τ.1 106 i)) (by omega) (by omega) (by omega) (fun j hj => by
      rw [wi_row (show 106 ≠ 103 by decide)]
      by_cases c : j = i
      · rw [c, wi_eq]
      · rw [wi_ne c]; exact h j (by omega))
    refine ⟨τ', ?_, fun j hj => by rw [q2 j hj, wi_row (by decide)], fun k hk => by rw [q3 k hk, wi_row hk], by rw [q4, wi_2]⟩
    rw [← q1, f_X7_takesOver_44]
    clear h q2
    simp (disch := omega) only [gd_t, bd_s, nm_W, nm_I, I_add, I_sub, I_mul, I_neg, I_le_t, I_le_f, I_lt_t, I_lt_f, I_eq_t, I_eq_f, I_inb', I_ix', Int.toNat_natCast, decide_true, decide_false, Bool.not_false, Bool.not_true, if_true, if_false, wi_eq, wi_eq', wi_ne, wi_row, wi_2, N0, N1, N2, N3, N4, N5, N6, N7, N8, N9, N10, N11, N12, N13, N14, N15, N16, N17, N18, N19, N20, N21, N22, N23, N24, N25, N26, N27, N28, N29, N30, N31, N32, N33, N34, N35, N36, N37, N38, N39, N40, N41, N42, N43, N45, N48, N57, N59, N88, N89, N97, N99, N120, N121, N122, N179, N200, N255, N300, N400, N880, N900, N999, N1019, N50000000, N100000000, N1000000000, N2147483647, N2147483648, tz]
theorem tO70 : ∀ (r i n : Nat) (z : Int) (τ : Wd), z = (i : Int) → i + r = 30 → r < n → (∀ j, j < i → τ.1 104 j = τ.1 107 j) → ∃ τ', f_X7_takesOver_70 n (I z) τ = f_X7_takesOver_96 FU (I 0) τ' ∧ (∀ j, j < 30 → τ'.1 104 j = τ.1 107 j) ∧ (∀ k, k ≠ 104 → τ'.1 k = τ.1 k) ∧ τ'.2 = τ.2
  | 0, i, n + 1, z, τ, hz, hi, _, h => by
    refine ⟨τ, ?_, fun j hj => h j (by omega), fun _ _ => rfl, rfl⟩
    rw [f_X7_takesOver_70]
    simp (disch := omega) only [gd_t, bd_s, nm_W, nm_I, I_add, I_sub, I_mul, I_neg, I_le_t, I_le_f, I_lt_t, I_lt_f, I_eq_t, I_eq_f, I_inb', I_ix', Int.toNat_natCast, decide_true, decide_false, Bool.not_false, Bool.not_true, if_true, if_false, wi_eq, wi_eq', wi_ne, wi_row, wi_2, N0, N1, N2, N3, N4, N5, N6, N7, N8, N9, N10, N11, N12, N13, N14, N15, N16, N17, N18, N19, N20, N21, N22, N23, N24, N25, N26, N27, N28, N29, N30, N31, N32, N33, N34, N35, N36, N37, N38, N39, N40, N41, N42, N43, N45, N48, N57, N59, N88, N89, N97, N99, N120, N121, N122, N179, N200, N255, N300, N400, N880, N900, N999, N1019, N50000000, N100000000, N1000000000, N2147483647, N2147483648]
  | r + 1, i, n + 1, z, τ, hz, hi, hn, h => by
    have tz : z.toNat = i := by omega
    obtain ⟨τ', q1, q2, q3, q4⟩ := tO70 r (i + 1) n (z + 1) (wi τ 104 i (τ.1 107 i)) (by omega) (by omega) (by omega) (fun j hj => by
      rw [wi_row (show 107 ≠ 104 by decide)]
      by_cases c : j = i
      · rw [c, wi_eq]
      · rw [wi_ne c]; exact h j (by omega))
    refine ⟨τ', ?_, fun j hj => by rw [q2 j hj, wi_row (by decide)], fun k hk => by rw [q3 k hk, wi_row hk], by rw [q4, wi_2]⟩
    rw [← q1, f_X7_takesOver_70]
    clear h q2
    simp (disch := omega) only [gd_t, bd_s, nm_W, nm_I, I_add, I_sub, I_mul, I_neg, I_le_t, I_le_f, I_lt_t, I_lt_f, I_eq_t, I_eq_f, I_inb', I_ix', Int.toNat_natCast, decide_true, decide_false, Bool.not_false, Bool.not_true, if_true, if_false, wi_eq, wi_eq', wi_ne, wi_row, wi_2, N0, N1, N2, N3, N4, N5, N6, N7, N8, N9, N10, N11, N12, N13, N14, N15, N16, N17, N18, N19, N20, N21, N22, N23, N24, N25, N26, N27, N28, N29, N30, N31, N32, N33, N34, N35, N36, N37, N38, N39, N40, N41, N42, N43, N45, N48, N57, N59, N88, N89, N97, N99, N120, N121, N122, N179, N200, N255, N300, N400, N880, N900, N999, N1019, N50000000, N100000000, N1000000000, N2147483647, N2147483648, tz]
theorem tO96 : ∀ (r i n : Nat) (z : Int) (τ : Wd), z = (i : Int) → i + r = 40 → r < n → (∀ j, j < i → τ.1 105 j = τ.1 108 j) → ∃ τ', f_X7_takesOver_96 n (I z) τ = f_X7_takesOver_122 FU (I 0) τ' ∧ (∀ j, j < 40 → τ'.1 105 j = τ.1 108 j) ∧ (∀ k, k ≠ 105 → τ'.1 k = τ.1 k) ∧ τ'.2 = τ.2
  | 0, i, n + 1, z, τ, hz, hi, _, h => by
    refine ⟨τ, ?_, fun j hj => h j (by omega), fun _ _ => rfl, rfl⟩
    rw [f_X7_takesOver_96]
    simp (disch := omega) only [gd_t, bd_s, nm_W, nm_I, I_add, I_sub, I_mul, I_neg, I_le_t, I_le_f, I_lt_t, I_lt_f, I_eq_t, I_eq_f, I_inb', I_ix', Int.toNat_natCast, decide_true, decide_false, Bool.not_false, Bool.not_true, if_true, if_false, wi_eq, wi_eq', wi_ne, wi_row, wi_2, N0, N1, N2, N3, N4, N5, N6, N7, N8, N9, N10, N11, N12, N13, N14, N15, N16, N17, N18, N19, N20, N21, N22, N23, N24, N25, N26, N27, N28, N29, N30, N31, N32, N33, N34, N35, N36, N37, N38, N39, N40, N41, N42, N43, N45, N48, N57, N59, N88, N89, N97, N99, N120, N121, N122, N179, N200, N255, N300, N400, N880, N900, N999, N1019, N50000000, N100000000, N1000000000, N2147483647, N2147483648]
  | r + 1, i, n + 1, z, τ, hz, hi, hn, h => by
    have tz : z.toNat = i := by omega
    obtain ⟨τ', q1, q2, q3, q4⟩ := tO96 r (i + 1) n (z + 1) (wi τ 105 i (τ.1 108 i)) (by omega) (by omega) (by omega) (fun j hj => by
      rw [wi_row (show 108 ≠ 105 by decide)]
      by_cases c : j = i
      · rw [c, wi_eq]
      · rw [wi_ne c]; exact h j (by omega))
    refine ⟨τ', ?_, fun j hj => by rw [q2 j hj, wi_row (by decide)], fun k hk => by rw [q3 k hk, wi_row hk], by rw [q4, wi_2]⟩
    rw [← q1, f_X7_takesOver_96]
    clear h q2
    simp (disch := omega) only [gd_t, bd_s, nm_W, nm_I, I_add, I_sub, I_mul, I_neg, I_le_t, I_le_f, I_lt_t, I_lt_f, I_eq_t, I_eq_f, I_inb', I_ix', Int.toNat_natCast, decide_true, decide_false, Bool.not_false, Bool.not_true, if_true, if_false, wi_eq, wi_eq', wi_ne, wi_row, wi_2, N0, N1, N2, N3, N4, N5, N6, N7, N8, N9, N10, N11, N12, N13, N14, N15, N16, N17, N18, N19, N20, N21, N22, N23, N24, N25, N26, N27, N28, N29, N30, N31, N32, N33, N34, N35, N36, N37, N38, N39, N40, N41, N42, N43, N45, N48, N57, N59, N88, N89, N97, N99, N120, N121, N122, N179, N200, N255, N300, N400, N880, N900, N999, N1019, N50000000, N100000000, N1000000000, N2147483647, N2147483648, tz]
theorem tO122 : ∀ (r i n : Nat) (z : Int) (τ : Wd), z = (i : Int) → i + r = 179 → r < n → (∀ j, j < i → τ.1 112 j = I 0) → ∃ τ', f_X7_takesOver_122 n (I z) τ = f_X7_takesOver_155 FU (I 0) (wi τ' 112 35 (τ.1 102 16)) ∧ (∀ j, j < 179 → τ'.1 112 j = I 0) ∧ (∀ k, k ≠ 112 → τ'.1 k = τ.1 k) ∧ τ'.2 = τ.2
  | 0, i, n + 1, z, τ, hz, hi, _, h => by
    have w35 : Int.toNat 35 = 35 := rfl
    refine ⟨τ, ?_, fun j hj => h j (by omega), fun _ _ => rfl, rfl⟩
    rw [f_X7_takesOver_122]
    clear h
    simp (disch := omega) only [gd_t, bd_s, nm_W, nm_I, I_add, I_sub, I_mul, I_neg, I_le_t, I_le_f, I_lt_t, I_lt_f, I_eq_t, I_eq_f, I_inb', I_ix', Int.toNat_natCast, decide_true, decide_false, Bool.not_false, Bool.not_true, if_true, if_false, wi_eq, wi_eq', wi_ne, wi_row, wi_2, N0, N1, N2, N3, N4, N5, N6, N7, N8, N9, N10, N11, N12, N13, N14, N15, N16, N17, N18, N19, N20, N21, N22, N23, N24, N25, N26, N27, N28, N29, N30, N31, N32, N33, N34, N35, N36, N37, N38, N39, N40, N41, N42, N43, N45, N48, N57, N59, N88, N89, N97, N99, N120, N121, N122, N179, N200, N255, N300, N400, N880, N900, N999, N1019, N50000000, N100000000, N1000000000, N2147483647, N2147483648, w35]
  | r + 1, i, n + 1, z, τ, hz, hi, hn, h => by
    have tz : z.toNat = i := by omega
    obtain ⟨τ', q1, q2, q3, q4⟩ := tO122 r (i + 1) n (z + 1) (wi τ 112 i (I 0)) (by omega) (by omega) (by omega) (fun j hj => by
      by_cases c : j = i
      · rw [c, wi_eq]
      · rw [wi_ne c]; exact h j (by omega))
    refine ⟨τ', ?_, q2, fun k hk => by rw [q3 k hk, wi_row hk], by rw [q4, wi_2]⟩
    rw [wi_row (show 102 ≠ 112 by decide)] at q1
    rw [← q1, f_X7_takesOver_122]
    clear h q2
    simp (disch := omega) only [gd_t, bd_s, nm_W, nm_I, I_add, I_sub, I_mul, I_neg, I_le_t, I_le_f, I_lt_t, I_lt_f, I_eq_t, I_eq_f, I_inb', I_ix', Int.toNat_natCast, decide_true, decide_false, Bool.not_false, Bool.not_true, if_true, if_false, wi_eq, wi_eq', wi_ne, wi_row, wi_2, N0, N1, N2, N3, N4, N5, N6, N7, N8, N9, N10, N11, N12, N13, N14, N15, N16, N17, N18, N19, N20, N21, N22, N23, N24, N25, N26, N27, N28, N29, N30, N31, N32, N33, N34, N35, N36, N37, N38, N39, N40, N41, N42, N43, N45, N48, N57, N59, N88, N89, N97, N99, N120, N121, N122, N179, N200, N255, N300, N400, N880, N900, N999, N1019, N50000000, N100000000, N1000000000, N2147483647, N2147483648, tz]
theorem tO180 {K : Int32 → Wd → Option (Int32 × Wd)} {v l : Nat} (hv : v < 5) (hl : l ≤ 6) : ∀ (r i n : Nat) (z : Int) (τ : Wd), z = (i : Int) → i + r = l → r < n → τ.1 103 (5 * v + 4) = I (l : Int) → (∀ j, j < i → τ.1 112 (6 * v + j) = τ.1 109 (6 * v + j)) →
    ∃ τ', f_X7_takesOver_180 K n (I (v : Int)) (I z) τ = K (I ((v : Int) + 1)) τ' ∧ (∀ j, j < l → τ'.1 112 (6 * v + j) = τ.1 109 (6 * v + j)) ∧ (∀ i, i < 8 → i ≠ 5 → i ≠ 6 → τ'.1 112 (48 + 8 * v + i) = I 0) ∧ τ'.1 112 (48 + 8 * v + 5) = I (-2) ∧ τ'.1 112 (48 + 8 * v + 6) = I (-2)
      ∧ (∀ i, i < 6 * v ∨ 6 * v + l ≤ i → i < 48 + 8 * v ∨ 56 + 8 * v ≤ i → τ'.1 112 i = τ.1 112 i) ∧ (∀ k, k ≠ 112 → τ'.1 k = τ.1 k) ∧ τ'.2 = τ.2
  | 0, i, n + 1, z, τ, hz, hi, _, h4, h => by
    have e7 := levels7 (σ := τ) hv
    rw [h4] at e7
    obtain ⟨τ', c1, c2, c3, c4, c5, c6, c7⟩ := rClr (τ := τ) hv
    refine ⟨τ', ?_, fun j hj => by rw [c5 _ (by omega)]; exact h j (by omega), c2, c3, c4, fun i _ h2 => c5 i h2, c6, c7⟩
    rw [f_X7_takesOver_180]
    clear h c2
    simp (disch := omega) only [gd_t, bd_s, nm_W, nm_I, I_add, I_sub, I_mul, I_neg, I_le_t, I_le_f, I_lt_t, I_lt_f, I_eq_t, I_eq_f, I_inb', I_ix', Int.toNat_natCast, decide_true, decide_false, Bool.not_false, Bool.not_true, if_true, if_false, wi_eq, wi_eq', wi_ne, wi_row, wi_2, N0, N1, N2, N3, N4, N5, N6, N7, N8, N9, N10, N11, N12, N13, N14, N15, N16, N17, N18, N19, N20, N21, N22, N23, N24, N25, N26, N27, N28, N29, N30, N31, N32, N33, N34, N35, N36, N37, N38, N39, N40, N41, N42, N43, N45, N48, N57, N59, N88, N89, N97, N99, N120, N121, N122, N179, N200, N255, N300, N400, N880, N900, N999, N1019, N50000000, N100000000, N1000000000, N2147483647, N2147483648, e7, c1]
  | r + 1, i, n + 1, z, τ, hz, hi, hn, h4, h => by
    have e7 := levels7 (σ := τ) hv
    rw [h4] at e7
    have t1 : ((6 : Int) * (v : Int) + z).toNat = 6 * v + i := by omega
    have t2 : ((0 : Int) + 6 * (v : Int) + z).toNat = 6 * v + i := by omega
    obtain ⟨τ', q1, q2, q3, q4, q5, q6, q7, q8⟩ := tO180 (K := K) hv hl r (i + 1) n (z + 1) (wi τ 112 (6 * v + i) (τ.1 109 (6 * v + i))) (by omega) (by omega) (by omega) (by rw [wi_row (by decide)]; exact h4) (fun j hj => by
      rw [wi_row (show 109 ≠ 112 by decide)]
      by_cases c : j = i
      · rw [c, wi_eq]
      · rw [wi_ne (by omega)]; exact h j (by omega))
    refine ⟨τ', ?_, fun j hj => by rw [q2 j hj, wi_row (by decide)], q3, q4, q5, fun i g1 g2 => by rw [q6 i g1 g2, wi_ne (by omega)], fun k hk => by rw [q7 k hk, wi_row hk], by rw [q8, wi_2]⟩
    rw [← q1, f_X7_takesOver_180]
    clear h q2 q3
    simp (disch := omega) only [gd_t, bd_s, nm_W, nm_I, I_add, I_sub, I_mul, I_neg, I_le_t, I_le_f, I_lt_t, I_lt_f, I_eq_t, I_eq_f, I_inb', I_ix', Int.toNat_natCast, decide_true, decide_false, Bool.not_false, Bool.not_true, if_true, if_false, wi_eq, wi_eq', wi_ne, wi_row, wi_2, N0, N1, N2, N3, N4, N5, N6, N7, N8, N9, N10, N11, N12, N13, N14, N15, N16, N17, N18, N19, N20, N21, N22, N23, N24, N25, N26, N27, N28, N29, N30, N31, N32, N33, N34, N35, N36, N37, N38, N39, N40, N41, N42, N43, N45, N48, N57, N59, N88, N89, N97, N99, N120, N121, N122, N179, N200, N255, N300, N400, N880, N900, N999, N1019, N50000000, N100000000, N1000000000, N2147483647, N2147483648, e7, t1, t2]
/-- a venue of the text, taken over -/
def TD (τ : Wd) (τ0 : Wd) (lv : Nat → Nat) (w : Nat) : Prop := τ.1 112 (30 + w) = τ0.1 110 w ∧ (∀ j, j < lv w → τ.1 112 (6 * w + j) = τ0.1 109 (6 * w + j)) ∧ (∀ i, i < 8 → i ≠ 5 → i ≠ 6 → τ.1 112 (48 + 8 * w + i) = I 0) ∧ τ.1 112 (48 + 8 * w + 5) = I (-2) ∧ τ.1 112 (48 + 8 * w + 6) = I (-2)
theorem tO155 {V : Nat} {lv : Nat → Nat} {τ0 : Wd} (hV : V ≤ 5) (hl : ∀ v, v < V → lv v ≤ 6) : ∀ (r i n : Nat) (z : Int) (τ : Wd), z = (i : Int) → i + r = V → r < n → τ.1 102 14 = I (V : Int) → (∀ v, v < V → τ.1 103 (5 * v + 4) = I (lv v : Int)) → τ.1 109 = τ0.1 109 → τ.1 110 = τ0.1 110 → (∀ w, w < i → TD τ τ0 lv w) →
    ∃ τ', f_X7_takesOver_155 n (I z) τ = some (0, τ') ∧ (∀ w, w < V → TD τ' τ0 lv w) ∧ (∀ j, 35 ≤ j → j < 48 ∨ 88 ≤ j → τ'.1 112 j = τ.1 112 j) ∧ (∀ k, k ≠ 112 → τ'.1 k = τ.1 k) ∧ τ'.2 = τ.2
  | 0, i, n + 1, z, τ, hz, hi, _, h14, h4, h9, h10, h => by
    refine ⟨τ, ?_, fun w hw => h w (by omega), fun _ _ _ => rfl, fun _ _ => rfl, rfl⟩
    rw [f_X7_takesOver_155]
    clear h h4
    simp (disch := omega) only [gd_t, bd_s, nm_W, nm_I, I_add, I_sub, I_mul, I_neg, I_le_t, I_le_f, I_lt_t, I_lt_f, I_eq_t, I_eq_f, I_inb', I_ix', Int.toNat_natCast, decide_true, decide_false, Bool.not_false, Bool.not_true, if_true, if_false, wi_eq, wi_eq', wi_ne, wi_row, wi_2, N0, N1, N2, N3, N4, N5, N6, N7, N8, N9, N10, N11, N12, N13, N14, N15, N16, N17, N18, N19, N20, N21, N22, N23, N24, N25, N26, N27, N28, N29, N30, N31, N32, N33, N34, N35, N36, N37, N38, N39, N40, N41, N42, N43, N45, N48, N57, N59, N88, N89, N97, N99, N120, N121, N122, N179, N200, N255, N300, N400, N880, N900, N999, N1019, N50000000, N100000000, N1000000000, N2147483647, N2147483648, h14]
  | r + 1, i, n + 1, z, τ, hz, hi, hn, h14, h4, h9, h10, h => by
    have tz : z.toNat = i := by omega
    have t1 : ((30 : Int) + z).toNat = 30 + i := by omega
    have l6 := hl i (by omega)
    obtain ⟨τ1, a1, a2, a3, a4, a5, a6, a7, a8⟩ := tO180 (K := f_X7_takesOver_155 n) (v := i) (l := lv i) (by omega) l6 (lv i) 0 FU 0 (wi τ 112 (30 + i) (τ.1 110 i)) rfl (by omega) (by show _ < 6000; omega) (by rw [wi_row (by decide)]; exact h4 i (by omega)) (fun j hj => absurd hj (by omega))
    have hTD : ∀ w, w < i + 1 → TD τ1 τ0 lv w := fun w hw => by
      by_cases c : w = i
      · subst c
        refine ⟨?_, fun j hj => ?_, a3, a4, a5⟩
        · rw [a6 _ (by omega) (by omega), wi_eq, h10]
        · rw [a2 j hj, wi_row (by decide), h9]
      · obtain ⟨b1, b2, b3, b4, b5⟩ := h w (by omega)
        have lw := hl w (by omega)
        refine ⟨?_, fun j hj => ?_, fun j j1 j2 j3 => ?_, ?_, ?_⟩
        · rw [a6 _ (by omega) (by omega), wi_ne (by omega)]; exact b1
        · rw [a6 _ (by omega) (by omega), wi_ne (by omega)]; exact b2 j hj
        · rw [a6 _ (by omega) (by omega), wi_ne (by omega)]; exact b3 j j1 j2 j3
        · rw [a6 _ (by omega) (by omega), wi_ne (by omega)]; exact b4
        · rw [a6 _ (by omega) (by omega), wi_ne (by omega)]; exact b5
    obtain ⟨τ', q1, q2, q3, q4, q5⟩ := tO155 hV hl r (i + 1) n (z + 1) τ1 (by omega) (by omega) (by omega) (by rw [a7 102 (by decide), wi_row (by decide)]; exact h14) (fun v hv => by rw [a7 103 (by decide), wi_row (by decide)]; exact h4 v hv) (by rw [a7 109 (by decide), wi_row (by decide)]; exact h9) (by rw [a7 110 (by decide), wi_row (by decide)]; exact h10) hTD
    refine ⟨τ', ?_, q2, fun j j1 j2 => by rw [q3 j j1 j2, a6 j (by omega) (by omega), wi_ne (by omega)], fun k hk => by rw [q4 k hk, a7 k hk, wi_row hk], by rw [q5, a8, wi_2]⟩
    rw [← q1, f_X7_takesOver_155]
    rw [← hz] at a1
    clear h h4 q2 hTD a2 a3
    simp (disch := omega) only [gd_t, bd_s, nm_W, nm_I, I_add, I_sub, I_mul, I_neg, I_le_t, I_le_f, I_lt_t, I_lt_f, I_eq_t, I_eq_f, I_inb', I_ix', Int.toNat_natCast, decide_true, decide_false, Bool.not_false, Bool.not_true, if_true, if_false, wi_eq, wi_eq', wi_ne, wi_row, wi_2, N0, N1, N2, N3, N4, N5, N6, N7, N8, N9, N10, N11, N12, N13, N14, N15, N16, N17, N18, N19, N20, N21, N22, N23, N24, N25, N26, N27, N28, N29, N30, N31, N32, N33, N34, N35, N36, N37, N38, N39, N40, N41, N42, N43, N45, N48, N57, N59, N88, N89, N97, N99, N120, N121, N122, N179, N200, N255, N300, N400, N880, N900, N999, N1019, N50000000, N100000000, N1000000000, N2147483647, N2147483648, h14, tz, t1, a1]
