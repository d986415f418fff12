/-! PURE: the law, call by call -/
theorem L_0 {L : Nat} {xs : Nat → Int32} {k : Wd → Option (Int32 × Wd)} {i : Int32} {σ : Wd} {B : Int} (h1 : inb (i + (1 : Int32)) L = true) (h2 : inb (i + (2 : Int32)) L = true) (h3 : inb (i + (3 : Int32)) L = true) (h4 : inb (i + (4 : Int32)) L = true) (h5 : inb (i + (5 : Int32)) L = true) (hG : GG σ σ B) (hB : B ≤ 200000) : ∃ σ3, GG σ3 σ3 (B + 200) ∧ f_law_0 L xs k i σ = k σ3 := by
  obtain ⟨x, σ1, σ3, a1, a2, a3⟩ := stM (m_feed (xs (ix (i + (1 : Int32)))) (xs (ix (i + (2 : Int32)))) (xs (ix (i + (3 : Int32)))) (xs (ix (i + (4 : Int32)))) (xs (ix (i + (5 : Int32))))) hG hB
  refine ⟨σ3, a3, ?_⟩
  simp only [f_law_0, h1, h2, h3, h4, h5, gd_t, a1, bd_s, a2, if_true]
theorem L_1 {L : Nat} {xs : Nat → Int32} {k : Wd → Option (Int32 × Wd)} {i : Int32} {σ : Wd} {B : Int} (h1 : inb (i + (1 : Int32)) L = true) (h2 : inb (i + (2 : Int32)) L = true) (h3 : inb (i + (3 : Int32)) L = true) (h4 : inb (i + (4 : Int32)) L = true) (h5 : inb (i + (5 : Int32)) L = true) (hG : GG σ σ B) (hB : B ≤ 200000) : ∃ σ3, GG σ3 σ3 (B + 200) ∧ f_law_1 L xs k i σ = k σ3 := by
  obtain ⟨x, σ1, σ3, a1, a2, a3⟩ := stM (m_split (xs (ix (i + (1 : Int32))))) hG hB
  refine ⟨σ3, a3, ?_⟩
  simp only [f_law_1, h1, h2, h3, h4, h5, gd_t, a1, bd_s, a2, if_true]
theorem L_2 {L : Nat} {xs : Nat → Int32} {k : Wd → Option (Int32 × Wd)} {i : Int32} {σ : Wd} {B : Int} (h1 : inb (i + (1 : Int32)) L = true) (h2 : inb (i + (2 : Int32)) L = true) (h3 : inb (i + (3 : Int32)) L = true) (h4 : inb (i + (4 : Int32)) L = true) (h5 : inb (i + (5 : Int32)) L = true) (hG : GG σ σ B) (hB : B ≤ 200000) : ∃ σ3, GG σ3 σ3 (B + 200) ∧ f_law_2 L xs k i σ = k σ3 := by
  obtain ⟨x, σ1, σ3, a1, a2, a3⟩ := stM (m_fault) hG hB
  refine ⟨σ3, a3, ?_⟩
  simp only [f_law_2, h1, h2, h3, h4, h5, gd_t, a1, bd_s, a2, if_true]
theorem L_3 {L : Nat} {xs : Nat → Int32} {k : Wd → Option (Int32 × Wd)} {i : Int32} {σ : Wd} {B : Int} (h1 : inb (i + (1 : Int32)) L = true) (h2 : inb (i + (2 : Int32)) L = true) (h3 : inb (i + (3 : Int32)) L = true) (h4 : inb (i + (4 : Int32)) L = true) (h5 : inb (i + (5 : Int32)) L = true) (hG : GG σ σ B) (hB : B ≤ 200000) : ∃ σ3, GG σ3 σ3 (B + 200) ∧ f_law_3 L xs k i σ = k σ3 := by
  obtain ⟨x, σ1, σ3, a1, a2, a3⟩ := stM (m_where) hG hB
  refine ⟨σ3, a3, ?_⟩
  simp only [f_law_3, h1, h2, h3, h4, h5, gd_t, a1, bd_s, a2, if_true]
theorem L_4 {L : Nat} {xs : Nat → Int32} {k : Wd → Option (Int32 × Wd)} {i : Int32} {σ : Wd} {B : Int} (h1 : inb (i + (1 : Int32)) L = true) (h2 : inb (i + (2 : Int32)) L = true) (h3 : inb (i + (3 : Int32)) L = true) (h4 : inb (i + (4 : Int32)) L = true) (h5 : inb (i + (5 : Int32)) L = true) (hG : GG σ σ B) (hB : B ≤ 200000) : ∃ σ3, GG σ3 σ3 (B + 200) ∧ f_law_4 L xs k i σ = k σ3 := by
  obtain ⟨x, σ1, σ3, a1, a2, a3⟩ := stM (m_about (xs (ix (i + (1 : Int32))))) hG hB
  refine ⟨σ3, a3, ?_⟩
  simp only [f_law_4, h1, h2, h3, h4, h5, gd_t, a1, bd_s, a2, if_true]
theorem L_5 {L : Nat} {xs : Nat → Int32} {k : Wd → Option (Int32 × Wd)} {i : Int32} {σ : Wd} {B : Int} (h1 : inb (i + (1 : Int32)) L = true) (h2 : inb (i + (2 : Int32)) L = true) (h3 : inb (i + (3 : Int32)) L = true) (h4 : inb (i + (4 : Int32)) L = true) (h5 : inb (i + (5 : Int32)) L = true) (hG : GG σ σ B) (hB : B ≤ 200000) : ∃ σ3, GG σ3 σ3 (B + 200) ∧ f_law_5 L xs k i σ = k σ3 := by
  obtain ⟨x, σ1, σ3, a1, a2, a3⟩ := stM (m_venue (xs (ix (i + (1 : Int32)))) (xs (ix (i + (2 : Int32))))) hG hB
  refine ⟨σ3, a3, ?_⟩
  simp only [f_law_5, h1, h2, h3, h4, h5, gd_t, a1, bd_s, a2, if_true]
theorem L_6 {L : Nat} {xs : Nat → Int32} {k : Wd → Option (Int32 × Wd)} {i : Int32} {σ : Wd} {B : Int} (h1 : inb (i + (1 : Int32)) L = true) (h2 : inb (i + (2 : Int32)) L = true) (h3 : inb (i + (3 : Int32)) L = true) (h4 : inb (i + (4 : Int32)) L = true) (h5 : inb (i + (5 : Int32)) L = true) (hG : GG σ σ B) (hB : B ≤ 200000) : ∃ σ3, GG σ3 σ3 (B + 200) ∧ f_law_6 L xs k i σ = k σ3 := by
  obtain ⟨x, σ1, σ3, a1, a2, a3⟩ := stM (m_level (xs (ix (i + (1 : Int32)))) (xs (ix (i + (2 : Int32)))) (xs (ix (i + (3 : Int32))))) hG hB
  refine ⟨σ3, a3, ?_⟩
  simp only [f_law_6, h1, h2, h3, h4, h5, gd_t, a1, bd_s, a2, if_true]
theorem L_7 {L : Nat} {xs : Nat → Int32} {k : Wd → Option (Int32 × Wd)} {i : Int32} {σ : Wd} {B : Int} (h1 : inb (i + (1 : Int32)) L = true) (h2 : inb (i + (2 : Int32)) L = true) (h3 : inb (i + (3 : Int32)) L = true) (h4 : inb (i + (4 : Int32)) L = true) (h5 : inb (i + (5 : Int32)) L = true) (hG : GG σ σ B) (hB : B ≤ 200000) : ∃ σ3, GG σ3 σ3 (B + 200) ∧ f_law_7 L xs k i σ = k σ3 := by
  obtain ⟨x, σ1, σ3, a1, a2, a3⟩ := stM (m_charge (xs (ix (i + (1 : Int32)))) (xs (ix (i + (2 : Int32))))) hG hB
  refine ⟨σ3, a3, ?_⟩
  simp only [f_law_7, h1, h2, h3, h4, h5, gd_t, a1, bd_s, a2, if_true]
theorem L_8 {L : Nat} {xs : Nat → Int32} {k : Wd → Option (Int32 × Wd)} {i : Int32} {σ : Wd} {B : Int} (h1 : inb (i + (1 : Int32)) L = true) (h2 : inb (i + (2 : Int32)) L = true) (h3 : inb (i + (3 : Int32)) L = true) (h4 : inb (i + (4 : Int32)) L = true) (h5 : inb (i + (5 : Int32)) L = true) (hG : GG σ σ B) (hB : B ≤ 200000) : ∃ σ3, GG σ3 σ3 (B + 200) ∧ f_law_8 L xs k i σ = k σ3 := by
  obtain ⟨x, σ1, σ3, a1, a2, a3⟩ := stM (m_cost (xs (ix (i + (1 : Int32)))) (xs (ix (i + (2 : Int32))))) hG hB
  refine ⟨σ3, a3, ?_⟩
  simp only [f_law_8, h1, h2, h3, h4, h5, gd_t, a1, bd_s, a2, if_true]
theorem L_9 {L : Nat} {xs : Nat → Int32} {k : Wd → Option (Int32 × Wd)} {i : Int32} {σ : Wd} {B : Int} (h1 : inb (i + (1 : Int32)) L = true) (h2 : inb (i + (2 : Int32)) L = true) (h3 : inb (i + (3 : Int32)) L = true) (h4 : inb (i + (4 : Int32)) L = true) (h5 : inb (i + (5 : Int32)) L = true) (hG : GG σ σ B) (hB : B ≤ 200000) : ∃ σ3, GG σ3 σ3 (B + 200) ∧ f_law_9 L xs k i σ = k σ3 := by
  obtain ⟨x, σ1, σ3, a1, a2, a3⟩ := stM (m_under (xs (ix (i + (1 : Int32)))) (xs (ix (i + (2 : Int32))))) hG hB
  refine ⟨σ3, a3, ?_⟩
  simp only [f_law_9, h1, h2, h3, h4, h5, gd_t, a1, bd_s, a2, if_true]
theorem L_10 {L : Nat} {xs : Nat → Int32} {k : Wd → Option (Int32 × Wd)} {i : Int32} {σ : Wd} {B : Int} (h1 : inb (i + (1 : Int32)) L = true) (h2 : inb (i + (2 : Int32)) L = true) (h3 : inb (i + (3 : Int32)) L = true) (h4 : inb (i + (4 : Int32)) L = true) (h5 : inb (i + (5 : Int32)) L = true) (hG : GG σ σ B) (hB : B ≤ 200000) : ∃ σ3, GG σ3 σ3 (B + 200) ∧ f_law_10 L xs k i σ = k σ3 := by
  obtain ⟨x, σ1, σ3, a1, a2, a3⟩ := stM (m_units (xs (ix (i + (1 : Int32))))) hG hB
  refine ⟨σ3, a3, ?_⟩
  simp only [f_law_10, h1, h2, h3, h4, h5, gd_t, a1, bd_s, a2, if_true]
theorem L_11 {L : Nat} {xs : Nat → Int32} {k : Wd → Option (Int32 × Wd)} {i : Int32} {σ : Wd} {B : Int} (h1 : inb (i + (1 : Int32)) L = true) (h2 : inb (i + (2 : Int32)) L = true) (h3 : inb (i + (3 : Int32)) L = true) (h4 : inb (i + (4 : Int32)) L = true) (h5 : inb (i + (5 : Int32)) L = true) (hG : GG σ σ B) (hB : B ≤ 200000) : ∃ σ3, GG σ3 σ3 (B + 200) ∧ f_law_11 L xs k i σ = k σ3 := by
  obtain ⟨x, σ1, σ3, a1, a2, a3⟩ := stM (m_best (xs (ix (i + (1 : Int32))))) hG hB
  refine ⟨σ3, a3, ?_⟩
  simp only [f_law_11, h1, h2, h3, h4, h5, gd_t, a1, bd_s, a2, if_true]
theorem L_12 {L : Nat} {xs : Nat → Int32} {k : Wd → Option (Int32 × Wd)} {i : Int32} {σ : Wd} {B : Int} (h1 : inb (i + (1 : Int32)) L = true) (h2 : inb (i + (2 : Int32)) L = true) (h3 : inb (i + (3 : Int32)) L = true) (h4 : inb (i + (4 : Int32)) L = true) (h5 : inb (i + (5 : Int32)) L = true) (hG : GG σ σ B) (hB : B ≤ 200000) : ∃ σ3, GG σ3 σ3 (B + 200) ∧ f_law_12 L xs k i σ = k σ3 := by
  obtain ⟨x, σ1, σ3, a1, a2, a3⟩ := stM (m_share (xs (ix (i + (1 : Int32)))) (xs (ix (i + (2 : Int32))))) hG hB
  refine ⟨σ3, a3, ?_⟩
  simp only [f_law_12, h1, h2, h3, h4, h5, gd_t, a1, bd_s, a2, if_true]
theorem L_13 {L : Nat} {xs : Nat → Int32} {k : Wd → Option (Int32 × Wd)} {i : Int32} {σ : Wd} {B : Int} (h1 : inb (i + (1 : Int32)) L = true) (h2 : inb (i + (2 : Int32)) L = true) (h3 : inb (i + (3 : Int32)) L = true) (h4 : inb (i + (4 : Int32)) L = true) (h5 : inb (i + (5 : Int32)) L = true) (hG : GG σ σ B) (hB : B ≤ 200000) : ∃ σ3, GG σ3 σ3 (B + 200) ∧ f_law_13 L xs k i σ = k σ3 := by
  obtain ⟨x, σ1, σ3, a1, a2, a3⟩ := stM (m_bound (xs (ix (i + (1 : Int32))))) hG hB
  refine ⟨σ3, a3, ?_⟩
  simp only [f_law_13, h1, h2, h3, h4, h5, gd_t, a1, bd_s, a2, if_true]
theorem L_14 {L : Nat} {xs : Nat → Int32} {k : Wd → Option (Int32 × Wd)} {i : Int32} {σ : Wd} {B : Int} (h1 : inb (i + (1 : Int32)) L = true) (h2 : inb (i + (2 : Int32)) L = true) (h3 : inb (i + (3 : Int32)) L = true) (h4 : inb (i + (4 : Int32)) L = true) (h5 : inb (i + (5 : Int32)) L = true) (hG : GG σ σ B) (hB : B ≤ 200000) : ∃ σ3, GG σ3 σ3 (B + 200) ∧ f_law_14 L xs k i σ = k σ3 := by
  obtain ⟨x, σ1, σ3, a1, a2, a3⟩ := stM (m_margin (xs (ix (i + (1 : Int32))))) hG hB
  refine ⟨σ3, a3, ?_⟩
  simp only [f_law_14, h1, h2, h3, h4, h5, gd_t, a1, bd_s, a2, if_true]
theorem L_15 {L : Nat} {xs : Nat → Int32} {k : Wd → Option (Int32 × Wd)} {i : Int32} {σ : Wd} {B : Int} (h1 : inb (i + (1 : Int32)) L = true) (h2 : inb (i + (2 : Int32)) L = true) (h3 : inb (i + (3 : Int32)) L = true) (h4 : inb (i + (4 : Int32)) L = true) (h5 : inb (i + (5 : Int32)) L = true) (hG : GG σ σ B) (hB : B ≤ 200000) : ∃ σ3, GG σ3 σ3 (B + 200) ∧ f_law_15 L xs k i σ = k σ3 := by
  obtain ⟨x, σ1, σ3, a1, a2, a3⟩ := stM (m_gap (xs (ix (i + (1 : Int32))))) hG hB
  refine ⟨σ3, a3, ?_⟩
  simp only [f_law_15, h1, h2, h3, h4, h5, gd_t, a1, bd_s, a2, if_true]
theorem L_16 {L : Nat} {xs : Nat → Int32} {k : Wd → Option (Int32 × Wd)} {i : Int32} {σ : Wd} {B : Int} (h1 : inb (i + (1 : Int32)) L = true) (h2 : inb (i + (2 : Int32)) L = true) (h3 : inb (i + (3 : Int32)) L = true) (h4 : inb (i + (4 : Int32)) L = true) (h5 : inb (i + (5 : Int32)) L = true) (hG : GG σ σ B) (hB : B ≤ 200000) : ∃ σ3, GG σ3 σ3 (B + 200) ∧ f_law_16 L xs k i σ = k σ3 := by
  obtain ⟨x, σ1, σ3, a1, a2, a3⟩ := stM (m_greedy (xs (ix (i + (1 : Int32)))) (xs (ix (i + (2 : Int32))))) hG hB
  refine ⟨σ3, a3, ?_⟩
  simp only [f_law_16, h1, h2, h3, h4, h5, gd_t, a1, bd_s, a2, if_true]
theorem L_17 {L : Nat} {xs : Nat → Int32} {k : Wd → Option (Int32 × Wd)} {i : Int32} {σ : Wd} {B : Int} (h1 : inb (i + (1 : Int32)) L = true) (h2 : inb (i + (2 : Int32)) L = true) (h3 : inb (i + (3 : Int32)) L = true) (h4 : inb (i + (4 : Int32)) L = true) (h5 : inb (i + (5 : Int32)) L = true) (hG : GG σ σ B) (hB : B ≤ 200000) : ∃ σ3, GG σ3 σ3 (B + 200) ∧ f_law_17 L xs k i σ = k σ3 := by
  obtain ⟨x, σ1, σ3, a1, a2, a3⟩ := stM (m_worth (xs (ix (i + (1 : Int32)))) (xs (ix (i + (2 : Int32))))) hG hB
  refine ⟨σ3, a3, ?_⟩
  simp only [f_law_17, h1, h2, h3, h4, h5, gd_t, a1, bd_s, a2, if_true]
theorem L_18 {L : Nat} {xs : Nat → Int32} {k : Wd → Option (Int32 × Wd)} {i : Int32} {σ : Wd} {B : Int} (h1 : inb (i + (1 : Int32)) L = true) (h2 : inb (i + (2 : Int32)) L = true) (h3 : inb (i + (3 : Int32)) L = true) (h4 : inb (i + (4 : Int32)) L = true) (h5 : inb (i + (5 : Int32)) L = true) (hG : GG σ σ B) (hB : B ≤ 200000) : ∃ σ3, GG σ3 σ3 (B + 200) ∧ f_law_18 L xs k i σ = k σ3 := by
  obtain ⟨x, σ1, σ3, a1, a2, a3⟩ := stM (m_fewest (xs (ix (i + (1 : Int32))))) hG hB
  refine ⟨σ3, a3, ?_⟩
  simp only [f_law_18, h1, h2, h3, h4, h5, gd_t, a1, bd_s, a2, if_true]
theorem L_19 {L : Nat} {xs : Nat → Int32} {k : Wd → Option (Int32 × Wd)} {i : Int32} {σ : Wd} {B : Int} (h1 : inb (i + (1 : Int32)) L = true) (h2 : inb (i + (2 : Int32)) L = true) (h3 : inb (i + (3 : Int32)) L = true) (h4 : inb (i + (4 : Int32)) L = true) (h5 : inb (i + (5 : Int32)) L = true) (hG : GG σ σ B) (hB : B ≤ 200000) : ∃ σ3, GG σ3 σ3 (B + 200) ∧ f_law_19 L xs k i σ = k σ3 := by
  obtain ⟨x, σ1, σ3, a1, a2, a3⟩ := stM (m_plan (xs (ix (i + (1 : Int32)))) (xs (ix (i + (2 : Int32))))) hG hB
  refine ⟨σ3, a3, ?_⟩
  simp only [f_law_19, h1, h2, h3, h4, h5, gd_t, a1, bd_s, a2, if_true]
theorem L_20 {L : Nat} {xs : Nat → Int32} {k : Wd → Option (Int32 × Wd)} {i : Int32} {σ : Wd} {B : Int} (h1 : inb (i + (1 : Int32)) L = true) (h2 : inb (i + (2 : Int32)) L = true) (h3 : inb (i + (3 : Int32)) L = true) (h4 : inb (i + (4 : Int32)) L = true) (h5 : inb (i + (5 : Int32)) L = true) (hG : GG σ σ B) (hB : B ≤ 200000) : ∃ σ3, GG σ3 σ3 (B + 200) ∧ f_law_20 L xs k i σ = k σ3 := by
  obtain ⟨x, σ1, σ3, a1, a2, a3⟩ := stM (m_planned (xs (ix (i + (1 : Int32))))) hG hB
  refine ⟨σ3, a3, ?_⟩
  simp only [f_law_20, h1, h2, h3, h4, h5, gd_t, a1, bd_s, a2, if_true]
theorem L_21 {L : Nat} {xs : Nat → Int32} {k : Wd → Option (Int32 × Wd)} {i : Int32} {σ : Wd} {B : Int} (h1 : inb (i + (1 : Int32)) L = true) (h2 : inb (i + (2 : Int32)) L = true) (h3 : inb (i + (3 : Int32)) L = true) (h4 : inb (i + (4 : Int32)) L = true) (h5 : inb (i + (5 : Int32)) L = true) (hG : GG σ σ B) (hB : B ≤ 200000) : ∃ σ3, GG σ3 σ3 (B + 200) ∧ f_law_21 L xs k i σ = k σ3 := by
  obtain ⟨x, σ1, σ3, a1, a2, a3⟩ := stM (m_move) hG hB
  refine ⟨σ3, a3, ?_⟩
  simp only [f_law_21, h1, h2, h3, h4, h5, gd_t, a1, bd_s, a2, if_true]
theorem L_22 {L : Nat} {xs : Nat → Int32} {k : Wd → Option (Int32 × Wd)} {i : Int32} {σ : Wd} {B : Int} (h1 : inb (i + (1 : Int32)) L = true) (h2 : inb (i + (2 : Int32)) L = true) (h3 : inb (i + (3 : Int32)) L = true) (h4 : inb (i + (4 : Int32)) L = true) (h5 : inb (i + (5 : Int32)) L = true) (hG : GG σ σ B) (hB : B ≤ 200000) : ∃ σ3, GG σ3 σ3 (B + 200) ∧ f_law_22 L xs k i σ = k σ3 := by
  obtain ⟨x, σ1, σ3, a1, a2, a3⟩ := stM (m_now (xs (ix (i + (1 : Int32))))) hG hB
  refine ⟨σ3, a3, ?_⟩
  simp only [f_law_22, h1, h2, h3, h4, h5, gd_t, a1, bd_s, a2, if_true]
theorem L_23 {L : Nat} {xs : Nat → Int32} {k : Wd → Option (Int32 × Wd)} {i : Int32} {σ : Wd} {B : Int} (h1 : inb (i + (1 : Int32)) L = true) (h2 : inb (i + (2 : Int32)) L = true) (h3 : inb (i + (3 : Int32)) L = true) (h4 : inb (i + (4 : Int32)) L = true) (h5 : inb (i + (5 : Int32)) L = true) (hG : GG σ σ B) (hB : B ≤ 200000) : ∃ σ3, GG σ3 σ3 (B + 200) ∧ f_law_23 L xs k i σ = k σ3 := by
  obtain ⟨x, y, σ1, σ3, a1, a2, a3⟩ := stL (m_part (xs (ix (i + (1 : Int32)))) (xs (ix (i + (2 : Int32))))) hG hB
  refine ⟨σ3, a3, ?_⟩
  simp only [f_law_23, h1, h2, h3, h4, h5, gd_t, a1, bd_s, a2, if_true]
theorem L_24 {L : Nat} {xs : Nat → Int32} {k : Wd → Option (Int32 × Wd)} {i : Int32} {σ : Wd} {B : Int} (h1 : inb (i + (1 : Int32)) L = true) (h2 : inb (i + (2 : Int32)) L = true) (h3 : inb (i + (3 : Int32)) L = true) (h4 : inb (i + (4 : Int32)) L = true) (h5 : inb (i + (5 : Int32)) L = true) (hG : GG σ σ B) (hB : B ≤ 200000) : ∃ σ3, GG σ3 σ3 (B + 200) ∧ f_law_24 L xs k i σ = k σ3 := by
  obtain ⟨x, σ1, σ3, a1, a2, a3⟩ := stM (m_entries) hG hB
  refine ⟨σ3, a3, ?_⟩
  simp only [f_law_24, h1, h2, h3, h4, h5, gd_t, a1, bd_s, a2, if_true]
theorem L_25 {L : Nat} {xs : Nat → Int32} {k : Wd → Option (Int32 × Wd)} {i : Int32} {σ : Wd} {B : Int} (h1 : inb (i + (1 : Int32)) L = true) (h2 : inb (i + (2 : Int32)) L = true) (h3 : inb (i + (3 : Int32)) L = true) (h4 : inb (i + (4 : Int32)) L = true) (h5 : inb (i + (5 : Int32)) L = true) (hG : GG σ σ B) (hB : B ≤ 200000) : ∃ σ3, GG σ3 σ3 (B + 200) ∧ f_law_25 L xs k i σ = k σ3 := by
  obtain ⟨x, σ1, σ3, a1, a2, a3⟩ := stM (m_entry (xs (ix (i + (1 : Int32)))) (xs (ix (i + (2 : Int32))))) hG hB
  refine ⟨σ3, a3, ?_⟩
  simp only [f_law_25, h1, h2, h3, h4, h5, gd_t, a1, bd_s, a2, if_true]
theorem L_26 {L : Nat} {xs : Nat → Int32} {k : Wd → Option (Int32 × Wd)} {i : Int32} {σ : Wd} {B : Int} (h1 : inb (i + (1 : Int32)) L = true) (h2 : inb (i + (2 : Int32)) L = true) (h3 : inb (i + (3 : Int32)) L = true) (h4 : inb (i + (4 : Int32)) L = true) (h5 : inb (i + (5 : Int32)) L = true) (hG : GG σ σ B) (hB : B ≤ 200000) : ∃ σ3, GG σ3 σ3 (B + 200) ∧ f_law_26 L xs k i σ = k σ3 := by
  obtain ⟨x, σ1, σ3, a1, a2, a3⟩ := stM (m_bought (xs (ix (i + (1 : Int32)))) (xs (ix (i + (2 : Int32))))) hG hB
  refine ⟨σ3, a3, ?_⟩
  simp only [f_law_26, h1, h2, h3, h4, h5, gd_t, a1, bd_s, a2, if_true]
theorem L_27 {L : Nat} {xs : Nat → Int32} {k : Wd → Option (Int32 × Wd)} {i : Int32} {σ : Wd} {B : Int} (h1 : inb (i + (1 : Int32)) L = true) (h2 : inb (i + (2 : Int32)) L = true) (h3 : inb (i + (3 : Int32)) L = true) (h4 : inb (i + (4 : Int32)) L = true) (h5 : inb (i + (5 : Int32)) L = true) (hG : GG σ σ B) (hB : B ≤ 200000) : ∃ σ3, GG σ3 σ3 (B + 200) ∧ f_law_27 L xs k i σ = k σ3 := by
  obtain ⟨x, σ1, σ3, a1, a2, a3⟩ := stM (m_will (xs (ix (i + (1 : Int32))))) hG hB
  refine ⟨σ3, a3, ?_⟩
  simp only [f_law_27, h1, h2, h3, h4, h5, gd_t, a1, bd_s, a2, if_true]
theorem L_28 {L : Nat} {xs : Nat → Int32} {k : Wd → Option (Int32 × Wd)} {i : Int32} {σ : Wd} {B : Int} (h1 : inb (i + (1 : Int32)) L = true) (h2 : inb (i + (2 : Int32)) L = true) (h3 : inb (i + (3 : Int32)) L = true) (h4 : inb (i + (4 : Int32)) L = true) (h5 : inb (i + (5 : Int32)) L = true) (hG : GG σ σ B) (hB : B ≤ 200000) : ∃ σ3, GG σ3 σ3 (B + 200) ∧ f_law_28 L xs k i σ = k σ3 := by
  obtain ⟨x, σ1, σ3, a1, a2, a3⟩ := stM (m_adopt (xs (ix (i + (1 : Int32))))) hG hB
  refine ⟨σ3, a3, ?_⟩
  simp only [f_law_28, h1, h2, h3, h4, h5, gd_t, a1, bd_s, a2, if_true]
theorem L_29 {L : Nat} {xs : Nat → Int32} {k : Wd → Option (Int32 × Wd)} {i : Int32} {σ : Wd} {B : Int} (h1 : inb (i + (1 : Int32)) L = true) (h2 : inb (i + (2 : Int32)) L = true) (h3 : inb (i + (3 : Int32)) L = true) (h4 : inb (i + (4 : Int32)) L = true) (h5 : inb (i + (5 : Int32)) L = true) (hG : GG σ σ B) (hB : B ≤ 200000) : ∃ σ3, GG σ3 σ3 (B + 200) ∧ f_law_29 L xs k i σ = k σ3 := by
  obtain ⟨x, σ1, σ3, a1, a2, a3⟩ := stM (m_fee (xs (ix (i + (1 : Int32)))) (xs (ix (i + (2 : Int32))))) hG hB
  refine ⟨σ3, a3, ?_⟩
  simp only [f_law_29, h1, h2, h3, h4, h5, gd_t, a1, bd_s, a2, if_true]
theorem L_30 {L : Nat} {xs : Nat → Int32} {k : Wd → Option (Int32 × Wd)} {i : Int32} {σ : Wd} {B : Int} (h1 : inb (i + (1 : Int32)) L = true) (h2 : inb (i + (2 : Int32)) L = true) (h3 : inb (i + (3 : Int32)) L = true) (h4 : inb (i + (4 : Int32)) L = true) (h5 : inb (i + (5 : Int32)) L = true) (hG : GG σ σ B) (hB : B ≤ 200000) : ∃ σ3, GG σ3 σ3 (B + 200) ∧ f_law_30 L xs k i σ = k σ3 := by
  obtain ⟨x, σ1, σ3, a1, a2, a3⟩ := stM (m_resize (xs (ix (i + (1 : Int32)))) (xs (ix (i + (2 : Int32)))) (xs (ix (i + (3 : Int32))))) hG hB
  refine ⟨σ3, a3, ?_⟩
  simp only [f_law_30, h1, h2, h3, h4, h5, gd_t, a1, bd_s, a2, if_true]
theorem L_31 {L : Nat} {xs : Nat → Int32} {k : Wd → Option (Int32 × Wd)} {i : Int32} {σ : Wd} {B : Int} (h1 : inb (i + (1 : Int32)) L = true) (h2 : inb (i + (2 : Int32)) L = true) (h3 : inb (i + (3 : Int32)) L = true) (h4 : inb (i + (4 : Int32)) L = true) (h5 : inb (i + (5 : Int32)) L = true) (hG : GG σ σ B) (hB : B ≤ 200000) : ∃ σ3, GG σ3 σ3 (B + 200) ∧ f_law_31 L xs k i σ = k σ3 := by
  obtain ⟨x, σ1, σ3, a1, a2, a3⟩ := stM (m_order (xs (ix (i + (1 : Int32))))) hG hB
  refine ⟨σ3, a3, ?_⟩
  simp only [f_law_31, h1, h2, h3, h4, h5, gd_t, a1, bd_s, a2, if_true]
theorem L_32 {L : Nat} {xs : Nat → Int32} {k : Wd → Option (Int32 × Wd)} {i : Int32} {σ : Wd} {B : Int} (h1 : inb (i + (1 : Int32)) L = true) (h2 : inb (i + (2 : Int32)) L = true) (h3 : inb (i + (3 : Int32)) L = true) (h4 : inb (i + (4 : Int32)) L = true) (h5 : inb (i + (5 : Int32)) L = true) (hG : GG σ σ B) (hB : B ≤ 200000) : ∃ σ3, GG σ3 σ3 (B + 200) ∧ f_law_32 L xs k i σ = k σ3 := by
  obtain ⟨x, σ1, σ3, a1, a2, a3⟩ := stM (m_begin) hG hB
  refine ⟨σ3, a3, ?_⟩
  simp only [f_law_32, h1, h2, h3, h4, h5, gd_t, a1, bd_s, a2, if_true]
theorem L_33 {L : Nat} {xs : Nat → Int32} {k : Wd → Option (Int32 × Wd)} {i : Int32} {σ : Wd} {B : Int} (h1 : inb (i + (1 : Int32)) L = true) (h2 : inb (i + (2 : Int32)) L = true) (h3 : inb (i + (3 : Int32)) L = true) (h4 : inb (i + (4 : Int32)) L = true) (h5 : inb (i + (5 : Int32)) L = true) (hG : GG σ σ B) (hB : B ≤ 200000) : ∃ σ3, GG σ3 σ3 (B + 200) ∧ f_law_33 L xs k i σ = k σ3 := by
  obtain ⟨x, σ1, σ3, a1, a2, a3⟩ := stM (m_ticks (xs (ix (i + (1 : Int32))))) hG hB
  refine ⟨σ3, a3, ?_⟩
  simp only [f_law_33, h1, h2, h3, h4, h5, gd_t, a1, bd_s, a2, if_true]
theorem L_34 {L : Nat} {xs : Nat → Int32} {k : Wd → Option (Int32 × Wd)} {i : Int32} {σ : Wd} {B : Int} (h1 : inb (i + (1 : Int32)) L = true) (h2 : inb (i + (2 : Int32)) L = true) (h3 : inb (i + (3 : Int32)) L = true) (h4 : inb (i + (4 : Int32)) L = true) (h5 : inb (i + (5 : Int32)) L = true) (hG : GG σ σ B) (hB : B ≤ 200000) : ∃ σ3, GG σ3 σ3 (B + 200) ∧ f_law_34 L xs k i σ = k σ3 := by
  obtain ⟨x, σ1, σ3, a1, a2, a3⟩ := stM (m_call (xs (ix (i + (1 : Int32))))) hG hB
  refine ⟨σ3, a3, ?_⟩
  simp only [f_law_34, h1, h2, h3, h4, h5, gd_t, a1, bd_s, a2, if_true]
theorem L_35 {L : Nat} {xs : Nat → Int32} {k : Wd → Option (Int32 × Wd)} {i : Int32} {σ : Wd} {B : Int} (h1 : inb (i + (1 : Int32)) L = true) (h2 : inb (i + (2 : Int32)) L = true) (h3 : inb (i + (3 : Int32)) L = true) (h4 : inb (i + (4 : Int32)) L = true) (h5 : inb (i + (5 : Int32)) L = true) (hG : GG σ σ B) (hB : B ≤ 200000) : ∃ σ3, GG σ3 σ3 (B + 200) ∧ f_law_35 L xs k i σ = k σ3 := by
  obtain ⟨x, σ1, σ3, a1, a2, a3⟩ := stM (m_keep) hG hB
  refine ⟨σ3, a3, ?_⟩
  simp only [f_law_35, h1, h2, h3, h4, h5, gd_t, a1, bd_s, a2, if_true]
theorem L_36 {L : Nat} {xs : Nat → Int32} {k : Wd → Option (Int32 × Wd)} {i : Int32} {σ : Wd} {B : Int} (h1 : inb (i + (1 : Int32)) L = true) (h2 : inb (i + (2 : Int32)) L = true) (h3 : inb (i + (3 : Int32)) L = true) (h4 : inb (i + (4 : Int32)) L = true) (h5 : inb (i + (5 : Int32)) L = true) (hG : GG σ σ B) (hB : B ≤ 200000) : ∃ σ3, GG σ3 σ3 (B + 200) ∧ f_law_36 L xs k i σ = k σ3 := by
  obtain ⟨x, σ1, σ3, a1, a2, a3⟩ := stM (m_back) hG hB
  refine ⟨σ3, a3, ?_⟩
  simp only [f_law_36, h1, h2, h3, h4, h5, gd_t, a1, bd_s, a2, if_true]
theorem L_37 {L : Nat} {xs : Nat → Int32} {k : Wd → Option (Int32 × Wd)} {i : Int32} {σ : Wd} {B : Int} (h1 : inb (i + (1 : Int32)) L = true) (h2 : inb (i + (2 : Int32)) L = true) (h3 : inb (i + (3 : Int32)) L = true) (h4 : inb (i + (4 : Int32)) L = true) (h5 : inb (i + (5 : Int32)) L = true) (hG : GG σ σ B) (hB : B ≤ 200000) : ∃ σ3, GG σ3 σ3 (B + 200) ∧ f_law_37 L xs k i σ = k σ3 := by
  obtain ⟨r, y, σ1, σ3, a1, a2, a3, a4⟩ := stD (a := (xs (ix (i + (1 : Int32))))) hG
  refine ⟨σ3, a3, ?_⟩
  simp only [f_law_37, h1, h2, h3, h4, h5, gd_t, a1, bd_s, a2, if_true]
theorem L_38 {L : Nat} {xs : Nat → Int32} {k : Wd → Option (Int32 × Wd)} {i : Int32} {σ : Wd} {B : Int} (h1 : inb (i + (1 : Int32)) L = true) (h2 : inb (i + (2 : Int32)) L = true) (h3 : inb (i + (3 : Int32)) L = true) (h4 : inb (i + (4 : Int32)) L = true) (h5 : inb (i + (5 : Int32)) L = true) (hG : GG σ σ B) (hB : B ≤ 200000) : ∃ σ3, GG σ3 σ3 (B + 200) ∧ f_law_38 L xs k i σ = k σ3 := by
  obtain ⟨x, σ1, σ3, a1, a2, a3⟩ := stM (m_size (xs (ix (i + (1 : Int32))))) hG hB
  refine ⟨σ3, a3, ?_⟩
  simp only [f_law_38, h1, h2, h3, h4, h5, gd_t, a1, bd_s, a2, if_true]
theorem L_39 {L : Nat} {xs : Nat → Int32} {k : Wd → Option (Int32 × Wd)} {i : Int32} {σ : Wd} {B : Int} (h1 : inb (i + (1 : Int32)) L = true) (h2 : inb (i + (2 : Int32)) L = true) (h3 : inb (i + (3 : Int32)) L = true) (h4 : inb (i + (4 : Int32)) L = true) (h5 : inb (i + (5 : Int32)) L = true) (hG : GG σ σ B) (hB : B ≤ 200000) : ∃ σ3, GG σ3 σ3 (B + 200) ∧ f_law_39 L xs k i σ = k σ3 := by
  obtain ⟨x, σ1, σ3, a1, a2, a3⟩ := stM (m_trouble) hG hB
  refine ⟨σ3, a3, ?_⟩
  simp only [f_law_39, h1, h2, h3, h4, h5, gd_t, a1, bd_s, a2, if_true]
theorem sw_ok {L : Nat} {xs : Nat → Int32} {k : Wd → Option (Int32 × Wd)} {i x : Int32} {σ : Wd} {B : Int} (h1 : inb (i + (1 : Int32)) L = true) (h2 : inb (i + (2 : Int32)) L = true) (h3 : inb (i + (3 : Int32)) L = true) (h4 : inb (i + (4 : Int32)) L = true) (h5 : inb (i + (5 : Int32)) L = true) (hG : GG σ σ B) (hB : B ≤ 200000) : ∃ σ3, GG σ3 σ3 (B + 200) ∧ f_law_sw L xs k i x σ = k σ3 := by
  unfold f_law_sw
  by_cases c0 : x = (0 : Int32)
  · rw [if_pos c0]; exact L_0 h1 h2 h3 h4 h5 hG hB
  rw [if_neg c0]
  by_cases c1 : x = (1 : Int32)
  · rw [if_pos c1]; exact L_1 h1 h2 h3 h4 h5 hG hB
  rw [if_neg c1]
  by_cases c2 : x = (2 : Int32)
  · rw [if_pos c2]; exact L_2 h1 h2 h3 h4 h5 hG hB
  rw [if_neg c2]
  by_cases c3 : x = (3 : Int32)
  · rw [if_pos c3]; exact L_3 h1 h2 h3 h4 h5 hG hB
  rw [if_neg c3]
  by_cases c4 : x = (4 : Int32)
  · rw [if_pos c4]; exact L_4 h1 h2 h3 h4 h5 hG hB
  rw [if_neg c4]
  by_cases c5 : x = (5 : Int32)
  · rw [if_pos c5]; exact L_5 h1 h2 h3 h4 h5 hG hB
  rw [if_neg c5]
  by_cases c6 : x = (6 : Int32)
  · rw [if_pos c6]; exact L_6 h1 h2 h3 h4 h5 hG hB
  rw [if_neg c6]
  by_cases c7 : x = (7 : Int32)
  · rw [if_pos c7]; exact L_7 h1 h2 h3 h4 h5 hG hB
  rw [if_neg c7]
  by_cases c8 : x = (8 : Int32)
  · rw [if_pos c8]; exact L_8 h1 h2 h3 h4 h5 hG hB
  rw [if_neg c8]
  by_cases c9 : x = (9 : Int32)
  · rw [if_pos c9]; exact L_9 h1 h2 h3 h4 h5 hG hB
  rw [if_neg c9]
  by_cases c10 : x = (10 : Int32)
  · rw [if_pos c10]; exact L_10 h1 h2 h3 h4 h5 hG hB
  rw [if_neg c10]
  by_cases c11 : x = (11 : Int32)
  · rw [if_pos c11]; exact L_11 h1 h2 h3 h4 h5 hG hB
  rw [if_neg c11]
  by_cases c12 : x = (12 : Int32)
  · rw [if_pos c12]; exact L_12 h1 h2 h3 h4 h5 hG hB
  rw [if_neg c12]
  by_cases c13 : x = (13 : Int32)
  · rw [if_pos c13]; exact L_13 h1 h2 h3 h4 h5 hG hB
  rw [if_neg c13]
  by_cases c14 : x = (14 : Int32)
  · rw [if_pos c14]; exact L_14 h1 h2 h3 h4 h5 hG hB
  rw [if_neg c14]
  by_cases c15 : x = (15 : Int32)
  · rw [if_pos c15]; exact L_15 h1 h2 h3 h4 h5 hG hB
  rw [if_neg c15]
  by_cases c16 : x = (16 : Int32)
  · rw [if_pos c16]; exact L_16 h1 h2 h3 h4 h5 hG hB
  rw [if_neg c16]
  by_cases c17 : x = (17 : Int32)
  · rw [if_pos c17]; exact L_17 h1 h2 h3 h4 h5 hG hB
  rw [if_neg c17]
  by_cases c18 : x = (18 : Int32)
  · rw [if_pos c18]; exact L_18 h1 h2 h3 h4 h5 hG hB
  rw [if_neg c18]
  by_cases c19 : x = (19 : Int32)
  · rw [if_pos c19]; exact L_19 h1 h2 h3 h4 h5 hG hB
  rw [if_neg c19]
  by_cases c20 : x = (20 : Int32)
  · rw [if_pos c20]; exact L_20 h1 h2 h3 h4 h5 hG hB
  rw [if_neg c20]
  by_cases c21 : x = (21 : Int32)
  · rw [if_pos c21]; exact L_21 h1 h2 h3 h4 h5 hG hB
  rw [if_neg c21]
  by_cases c22 : x = (22 : Int32)
  · rw [if_pos c22]; exact L_22 h1 h2 h3 h4 h5 hG hB
  rw [if_neg c22]
  by_cases c23 : x = (23 : Int32)
  · rw [if_pos c23]; exact L_23 h1 h2 h3 h4 h5 hG hB
  rw [if_neg c23]
  by_cases c24 : x = (24 : Int32)
  · rw [if_pos c24]; exact L_24 h1 h2 h3 h4 h5 hG hB
  rw [if_neg c24]
  by_cases c25 : x = (25 : Int32)
  · rw [if_pos c25]; exact L_25 h1 h2 h3 h4 h5 hG hB
  rw [if_neg c25]
  by_cases c26 : x = (26 : Int32)
  · rw [if_pos c26]; exact L_26 h1 h2 h3 h4 h5 hG hB
  rw [if_neg c26]
  by_cases c27 : x = (27 : Int32)
  · rw [if_pos c27]; exact L_27 h1 h2 h3 h4 h5 hG hB
  rw [if_neg c27]
  by_cases c28 : x = (28 : Int32)
  · rw [if_pos c28]; exact L_28 h1 h2 h3 h4 h5 hG hB
  rw [if_neg c28]
  by_cases c29 : x = (29 : Int32)
  · rw [if_pos c29]; exact L_29 h1 h2 h3 h4 h5 hG hB
  rw [if_neg c29]
  by_cases c30 : x = (30 : Int32)
  · rw [if_pos c30]; exact L_30 h1 h2 h3 h4 h5 hG hB
  rw [if_neg c30]
  by_cases c31 : x = (31 : Int32)
  · rw [if_pos c31]; exact L_31 h1 h2 h3 h4 h5 hG hB
  rw [if_neg c31]
  by_cases c32 : x = (32 : Int32)
  · rw [if_pos c32]; exact L_32 h1 h2 h3 h4 h5 hG hB
  rw [if_neg c32]
  by_cases c33 : x = (33 : Int32)
  · rw [if_pos c33]; exact L_33 h1 h2 h3 h4 h5 hG hB
  rw [if_neg c33]
  by_cases c34 : x = (34 : Int32)
  · rw [if_pos c34]; exact L_34 h1 h2 h3 h4 h5 hG hB
  rw [if_neg c34]
  by_cases c35 : x = (35 : Int32)
  · rw [if_pos c35]; exact L_35 h1 h2 h3 h4 h5 hG hB
  rw [if_neg c35]
  by_cases c36 : x = (36 : Int32)
  · rw [if_pos c36]; exact L_36 h1 h2 h3 h4 h5 hG hB
  rw [if_neg c36]
  by_cases c37 : x = (37 : Int32)
  · rw [if_pos c37]; exact L_37 h1 h2 h3 h4 h5 hG hB
  rw [if_neg c37]
  by_cases c38 : x = (38 : Int32)
  · rw [if_pos c38]; exact L_38 h1 h2 h3 h4 h5 hG hB
  rw [if_neg c38]
  by_cases c39 : x = (39 : Int32)
  · rw [if_pos c39]; exact L_39 h1 h2 h3 h4 h5 hG hB
  rw [if_neg c39]
  exact ⟨σ, GG_B hG (by omega), rfl⟩
theorem inb_k {L a c : Nat} (h : a + c < L) (hL : L ≤ 3072) : inb (nI a + I (c : Int)) L = true := by
  rw [← I_nat, I_add, show (a : Int) + (c : Int) = ((a + c : Nat) : Int) by omega]
  exact inI h (by omega)
theorem law_l {L : Nat} (hL : L ≤ 3072) (xs : Nat → Int32) : ∀ (r j n : Nat) (σ : Wd), j + r = 513 → r < n → 6 * j ≤ L → GG σ σ (200 * (j : Int)) → ∃ σ', f_law L xs n j σ = some (1, σ')
  | 0, j, n, σ, hj, _, h6, _ => by omega
  | r + 1, j, n + 1, σ, hj, hn, h6, hG => by
    rw [f_law]
    dsimp only
    by_cases c : L < 6 * j + 6
    · rw [if_pos (show nI L - 6 < nI (6 * j) by
        rw [← I_nat, ← I_nat]
        show I (L : Int) - I 6 < I ((6 * j : Nat) : Int)
        rw [I_sub, I_lt (by unfold R; omega) (by unfold R; omega)]
        omega)]
      exact ⟨σ, rfl⟩
    · have g0 : inb (nI (6 * j)) L = true := by rw [← I_nat]; exact inI (by omega) (by omega)
      rw [if_neg (show ¬ nI L - 6 < nI (6 * j) by
        rw [← I_nat, ← I_nat]
        show ¬ I (L : Int) - I 6 < I ((6 * j : Nat) : Int)
        rw [I_sub, I_lt (by unfold R; omega) (by unfold R; omega)]
        omega), g0, gd_t]
      obtain ⟨σ3, s1, s2⟩ := sw_ok (L := L) (xs := xs) (k := fun σ => gd (decide (6 * (j + 1) ≤ L)) (f_law L xs n (j + 1) σ)) (i := nI (6 * j)) (x := xs (ix (nI (6 * j))) &&& 63) (inb_k (c := 1) (by omega) hL) (inb_k (c := 2) (by omega) hL) (inb_k (c := 3) (by omega) hL) (inb_k (c := 4) (by omega) hL) (inb_k (c := 5) (by omega) hL) hG (by omega)
      rw [s2, decide_eq_true (show 6 * (j + 1) ≤ L by omega), gd_t]
      exact law_l hL xs r (j + 1) n σ3 (by omega) (by omega) (by omega) (GG_B s1 (by omega))
theorem law_pure {L : Nat} (hL : L ≤ 3072) (xs : Nat → Int32) : ∃ σ', f_law L xs FU 0 σ0 = some (1, σ') := law_l hL xs 513 0 FU σ0 rfl (by decide) (by omega) (GG_B GG_0 (by decide))
