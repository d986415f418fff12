/-! PURE: reading a written world; feed of class and reference -/
theorem wi_eq {σ : Wd} {k j : Nat} {x : Int32} : (wi σ k j x).1 k j = x := by
  show (if k = k then upd (σ.1 k) j x else σ.1 k) j = x
  rw [if_pos rfl]
  exact if_pos rfl
theorem wi_ne {σ : Wd} {k j i : Nat} {x : Int32} (h : i ≠ j) : (wi σ k j x).1 k i = σ.1 k i := by
  show (if k = k then upd (σ.1 k) j x else σ.1 k) i = _
  rw [if_pos rfl]
  exact if_neg h
theorem wi_row {σ : Wd} {k j a : Nat} {x : Int32} (h : a ≠ k) : (wi σ k j x).1 a = σ.1 a := if_neg h
theorem wi_2 {σ : Wd} {k j : Nat} {x : Int32} : (wi σ k j x).2 = σ.2 := rfl
theorem inb_nI {l n : Nat} (h : l < n) (hn : n < 2 ^ 31) : inb (nI l) n = true := by
  unfold inb
  rw [Bool.and_eq_true]
  refine ⟨decide_eq_true (nI_pos' (by omega)), ?_⟩
  rw [show ix (nI l) = l from nI_clamp (by omega)]
  exact Nat.ble_eq_true_of_le h
theorem put_ok : ∀ (j n : Nat) (a : Int32) (σ : Wd) (l : Nat), j < n → j ≤ 4 → σ.1 1 0 = nI l → l + j ≤ 900 → ∃ σ', f_X5_put_3 n a (nI (8 * j) - 8) σ = some (0, σ') ∧ σ'.1 1 0 = nI (l + j) ∧ (∀ k, k ≠ 1 → k ≠ 2 → σ'.1 k = σ.1 k) ∧ σ'.2 = σ.2 ∧ ∀ i, i ≠ 0 → σ'.1 1 i = σ.1 1 i := by
  intro j
  induction j with
  | zero =>
    intro n a σ l hn _ hl _
    obtain ⟨n, rfl⟩ : ∃ m, n = m + 1 := ⟨n - 1, by omega⟩
    refine ⟨σ, ?_, hl, fun _ _ _ => rfl, rfl, fun _ _ => rfl⟩
    rw [f_X5_put_3]
    rfl
  | succ j ih =>
    intro n a σ l hn hj hl h9
    obtain ⟨n, rfl⟩ : ∃ m, n = m + 1 := ⟨n - 1, by omega⟩
    have h1 : ¬ nI (8 * (j + 1)) - 8 < 0 := by rcases (show j = 0 ∨ j = 1 ∨ j = 2 ∨ j = 3 by omega) with rfl | rfl | rfl | rfl <;> decide
    have h2 : nI (8 * (j + 1)) - 8 + (-8) = nI (8 * j) - 8 := by rcases (show j = 0 ∨ j = 1 ∨ j = 2 ∨ j = 3 by omega) with rfl | rfl | rfl | rfl <;> decide
    have h3 : ¬ (900 : Int32) ≤ nI l := nI_ge (a := l) (b := 900) (by omega) (by omega)
    have h4 : inb (nI l) 900 = true := inb_nI (by omega) (by omega)
    obtain ⟨σ', e1, e2, e3, e4, e5⟩ := ih n a (wi (wi σ 2 (ix (σ.1 1 0)) (vp_nar .byte ((a >>> ((nI (8 * (j + 1)) - 8) &&& 31)).toInt8.toInt32))) 1 0 ((wi σ 2 (ix (σ.1 1 0)) (vp_nar .byte ((a >>> ((nI (8 * (j + 1)) - 8) &&& 31)).toInt8.toInt32))).1 1 0 + 1)) (l + 1) (by omega) (by omega) (by rw [wi_eq, wi_row (by decide), hl]; exact nI_1 l) (by omega)
    refine ⟨σ', ?_, by rw [e2]; congr 1; omega, fun k h1 h2 => by rw [e3 k h1 h2, wi_row h1, wi_row h2], e4, fun i hi => by rw [e5 i hi, wi_ne hi, wi_row (by decide)]⟩
    rw [f_X5_put_3]
    simp only [if_neg h1, hl, if_neg h3, h4, gd, nmW, h2]
    rw [hl] at e1
    exact e1
theorem puts_ok (a : Int32) (σ : Wd) (l : Nat) (hl : σ.1 1 0 = nI l) (h : l + 4 ≤ 900) : ∃ σ', f_X5_put a σ = some (0, σ') ∧ σ'.1 1 0 = nI (l + 4) ∧ (∀ k, k ≠ 1 → k ≠ 2 → σ'.1 k = σ.1 k) ∧ σ'.2 = σ.2 ∧ ∀ i, i ≠ 0 → σ'.1 1 i = σ.1 1 i := by
  unfold f_X5_put
  exact put_ok 4 FU a σ l (by unfold FU; omega) (Nat.le_refl 4) hl h
/-- feed of the class, where there is room -/
theorem feed6 (a b c d e : Int32) (σ : Wd) (l : Nat) (hl : σ.1 1 0 = nI l) (h : l + 20 ≤ 900) : ∃ σ', f_X6_feed a b c d e σ = some (nI (l + 20), σ') ∧ σ'.1 1 0 = nI (l + 20) ∧ (∀ k, k ≠ 1 → k ≠ 2 → σ'.1 k = σ.1 k) ∧ σ'.2 = σ.2 ∧ ∀ i, i ≠ 0 → σ'.1 1 i = σ.1 1 i := by
  obtain ⟨σ1, a1, a2, a3, a4, a5⟩ := puts_ok a σ l hl (by omega)
  obtain ⟨σ2, b1, b2, b3, b4, b5⟩ := puts_ok b σ1 (l + 4) a2 (by omega)
  obtain ⟨σ3, c1, c2, c3, c4, c5⟩ := puts_ok c σ2 (l + 4 + 4) b2 (by omega)
  obtain ⟨σ4, d1, d2, d3, d4, d5⟩ := puts_ok d σ3 (l + 4 + 4 + 4) c2 (by omega)
  obtain ⟨σ5, e1, e2, e3, e4, e5⟩ := puts_ok e σ4 (l + 4 + 4 + 4 + 4) d2 (by omega)
  have e2 : σ5.1 1 0 = nI (l + 20) := e2
  refine ⟨σ5, ?_, e2, fun k h1 h2 => by rw [e3 k h1 h2, d3 k h1 h2, c3 k h1 h2, b3 k h1 h2, a3 k h1 h2], by rw [e4, d4, c4, b4, a4], fun i hi => by rw [e5 i hi, d5 i hi, c5 i hi, b5 i hi, a5 i hi]⟩
  unfold f_X6_feed
  rw [if_pos (by rw [hl]; exact nI_le (a := l) (b := 880) (by omega) (by omega)), a1]
  simp only [bd, b1, c1, d1, e1, e2]
theorem feed6_full (a b c d e : Int32) (σ : Wd) (l : Nat) (hl : σ.1 1 0 = nI l) (h : ¬ l + 20 ≤ 900) (h2 : l ≤ 900) : f_X6_feed a b c d e σ = some (-1, σ) := by
  unfold f_X6_feed
  rw [if_neg]
  rw [hl]
  exact nI_ge (a := 880) (b := l) (by omega) (by omega)
/-- the reference's loop -/
theorem feed7_loop : ∀ (j n : Nat) (a b c d e : Int32) (σ : Wd) (l : Nat), j < n → j ≤ 20 → σ.1 102 27 = nI l → l + j ≤ 900 → ∃ σ', f_X7_feed_23 n a b c d e (nI (20 - j)) σ = some (nI (l + j), σ') ∧ σ'.1 102 27 = nI (l + j) ∧ (∀ k, k ≠ 102 → k ≠ 115 → σ'.1 k = σ.1 k) ∧ σ'.2 = σ.2 ∧ ∀ i, i ≠ 27 → σ'.1 102 i = σ.1 102 i := by
  intro j
  induction j with
  | zero =>
    intro n a b c d e σ l hn _ hl _
    obtain ⟨n, rfl⟩ : ∃ m, n = m + 1 := ⟨n - 1, by omega⟩
    refine ⟨σ, ?_, hl, fun _ _ _ => rfl, rfl, fun _ _ => rfl⟩
    rw [f_X7_feed_23]
    show (if (20 : Int32) ≤ nI 20 then some (σ.1 102 27, σ) else _) = _
    rw [if_pos (by decide), hl]
    rfl
  | succ j ih =>
    intro n a b c d e σ l hn hj hl h9
    obtain ⟨n, rfl⟩ : ∃ m, n = m + 1 := ⟨n - 1, by omega⟩
    have h1 : ¬ (20 : Int32) ≤ nI (20 - (j + 1)) := nI_ge (a := 20 - (j + 1)) (b := 20) (by omega) (by omega)
    have h2 : nI (20 - (j + 1)) + 1 = nI (20 - j) := by rw [nI_1]; congr 1; omega
    have h4 : inb (nI l) 900 = true := inb_nI (by omega) (by omega)
    have key : ∀ s : Int32, ∃ σ', f_X7_feed_76 (f_X7_feed_23 n) a b c d e (nI (20 - (j + 1))) s σ = some (nI (l + (j + 1)), σ') ∧ σ'.1 102 27 = nI (l + (j + 1)) ∧ (∀ k, k ≠ 102 → k ≠ 115 → σ'.1 k = σ.1 k) ∧ σ'.2 = σ.2 ∧ ∀ i, i ≠ 27 → σ'.1 102 i = σ.1 102 i := by
      intro s
      obtain ⟨σ', e1, e2, e3, e4, e5⟩ := ih n a b c d e (wi (wi σ 115 (ix (nI l)) (vp_nar .byte ((s >>> (((24 : Int32) - ((8 : Int32) * (nI (20 - (j + 1)) % (4 : Int32)))) &&& 31)).toInt8.toInt32))) 102 27 (nI l + 1)) (l + 1) (by omega) (by omega) (by rw [wi_eq]; exact nI_1 l) (by omega)
      refine ⟨σ', ?_, by rw [e2]; congr 1; omega, fun k h1 h2 => by rw [e3 k h1 h2, wi_row h1, wi_row h2], e4, fun i hi => by rw [e5 i hi, wi_ne hi, wi_row (by decide)]⟩
      unfold f_X7_feed_76
      have h6 : (!decide ((4 : Int32) = 0)) = true := by decide
      have h7 : (wi σ 115 (ix (nI l)) (vp_nar .byte ((s >>> (((24 : Int32) - ((8 : Int32) * (nI (20 - (j + 1)) % (4 : Int32)))) &&& 31)).toInt8.toInt32))).1 102 27 = nI l := by rw [wi_row (by decide), hl]
      simp only [h6, hl, h4, gd, nmW, h7, h2]
      rw [e1, show l + 1 + j = l + (j + 1) by omega]
    rw [f_X7_feed_23]
    simp only [if_neg h1]
    split
    · split
      · split
        · split
          · exact key _
          · exact key _
        · exact key _
      · exact key _
    · exact key _
theorem feed7 (a b c d e : Int32) (σ : Wd) (l : Nat) (hl : σ.1 102 27 = nI l) (h : l + 20 ≤ 900) : ∃ σ', f_X7_feed a b c d e σ = some (nI (l + 20), σ') ∧ σ'.1 102 27 = nI (l + 20) ∧ (∀ k, k ≠ 102 → k ≠ 115 → σ'.1 k = σ.1 k) ∧ σ'.2 = σ.2 ∧ ∀ i, i ≠ 27 → i ≠ 0 → σ'.1 102 i = σ.1 102 i := by
  have h0 : (wi σ 102 0 0).1 102 27 = nI l := by rw [wi_ne (by decide), hl]
  obtain ⟨σ', e1, e2, e3, e4, e5⟩ := feed7_loop 20 FU a b c d e (wi σ 102 0 0) l (by unfold FU; omega) (Nat.le_refl 20) h0 h
  refine ⟨σ', ?_, e2, fun k h1 h2 => by rw [e3 k h1 h2, wi_row h1], e4, fun i hi h0 => by rw [e5 i hi, wi_ne h0]⟩
  unfold f_X7_feed
  simp only [nmW, h0]
  have h5 : nI l + 20 ≤ 900 := by
    rw [show (20 : Int32) = nI 20 from rfl, nI_add]
    exact nI_le (a := l + 20) (b := 900) h (by omega)
  rw [if_pos h5]
  exact e1
theorem feed7_full (a b c d e : Int32) (σ : Wd) (l : Nat) (hl : σ.1 102 27 = nI l) (h : ¬ l + 20 ≤ 900) (h2 : l ≤ 900) : f_X7_feed a b c d e σ = some (-1, wi σ 102 0 0) := by
  have h0 : (wi σ 102 0 0).1 102 27 = nI l := by rw [wi_ne (by decide), hl]
  unfold f_X7_feed
  simp only [nmW, h0]
  have h5 : ¬ nI l + 20 ≤ 900 := by
    rw [show (20 : Int32) = nI 20 from rfl, nI_add]
    exact nI_ge (a := 900) (b := l + 20) (by omega) (by omega)
  rw [if_neg h5]
