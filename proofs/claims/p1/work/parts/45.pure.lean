def kk : Wd → Option (Int32 × Wd) := fun σ => some (1, σ)
theorem ex_map {e : Option (Int32 × Wd)} (h : e.map Prod.fst = some 1) : ∃ σ', e = some (1, σ') := by
  cases e with
  | none => cases h
  | some o =>
    obtain ⟨r, σ⟩ := o
    have h : r = 1 := Option.some.inj h
    exact ⟨σ, by rw [h]⟩
theorem b_1 : inb ((0 : Int32) + 1) 6 = true := rfl
theorem b_2 : inb ((0 : Int32) + 2) 6 = true := rfl
theorem b_3 : inb ((0 : Int32) + 3) 6 = true := rfl
theorem b_4 : inb ((0 : Int32) + 4) 6 = true := rfl
theorem b_5 : inb ((0 : Int32) + 5) 6 = true := rfl
theorem C_4 (xs : Nat → Int32) : ∃ σ', f_law_4 6 xs kk 0 σ0 = some (1, σ') := ⟨σR, by simp only [f_law_4, b_1, b_2, b_3, gd_t, A_about, B_about, bd_s, if_true]; rfl⟩
theorem C_5 (xs : Nat → Int32) : ∃ σ', f_law_5 6 xs kk 0 σ0 = some (1, σ') := ⟨σR, by simp only [f_law_5, b_1, b_2, b_3, gd_t, A_venue, B_venue, bd_s, if_true]; rfl⟩
theorem C_6 (xs : Nat → Int32) : ∃ σ', f_law_6 6 xs kk 0 σ0 = some (1, σ') := ⟨σR, by simp only [f_law_6, b_1, b_2, b_3, gd_t, A_level, B_level, bd_s, if_true]; rfl⟩
theorem C_7 (xs : Nat → Int32) : ∃ σ', f_law_7 6 xs kk 0 σ0 = some (1, σ') := ⟨σR, by simp only [f_law_7, b_1, b_2, b_3, gd_t, A_charge, B_charge, bd_s, if_true]; rfl⟩
theorem C_8 (xs : Nat → Int32) : ∃ σ', f_law_8 6 xs kk 0 σ0 = some (1, σ') := ⟨σR, by simp only [f_law_8, b_1, b_2, b_3, gd_t, A_cost, B_cost, bd_s, if_true]; rfl⟩
theorem C_9 (xs : Nat → Int32) : ∃ σ', f_law_9 6 xs kk 0 σ0 = some (1, σ') := ⟨σR, by simp only [f_law_9, b_1, b_2, b_3, gd_t, A_under, B_under, bd_s, if_true]; rfl⟩
theorem C_10 (xs : Nat → Int32) : ∃ σ', f_law_10 6 xs kk 0 σ0 = some (1, σ') := ⟨σR, by simp only [f_law_10, b_1, b_2, b_3, gd_t, A_units, B_units, bd_s, if_true]; rfl⟩
theorem C_11 (xs : Nat → Int32) : ∃ σ', f_law_11 6 xs kk 0 σ0 = some (1, σ') := ⟨σR, by simp only [f_law_11, b_1, b_2, b_3, gd_t, A_best, B_best, bd_s, if_true]; rfl⟩
theorem C_12 (xs : Nat → Int32) : ∃ σ', f_law_12 6 xs kk 0 σ0 = some (1, σ') := ⟨σR, by simp only [f_law_12, b_1, b_2, b_3, gd_t, A_share, B_share, bd_s, if_true]; rfl⟩
theorem C_13 (xs : Nat → Int32) : ∃ σ', f_law_13 6 xs kk 0 σ0 = some (1, σ') := ⟨σR, by simp only [f_law_13, b_1, b_2, b_3, gd_t, A_bound, B_bound, bd_s, if_true]; rfl⟩
theorem C_14 (xs : Nat → Int32) : ∃ σ', f_law_14 6 xs kk 0 σ0 = some (1, σ') := ⟨σR, by simp only [f_law_14, b_1, b_2, b_3, gd_t, A_margin, B_margin, bd_s, if_true]; rfl⟩
theorem C_15 (xs : Nat → Int32) : ∃ σ', f_law_15 6 xs kk 0 σ0 = some (1, σ') := ⟨σR, by simp only [f_law_15, b_1, b_2, b_3, gd_t, A_gap, B_gap, bd_s, if_true]; rfl⟩
theorem C_16 (xs : Nat → Int32) : ∃ σ', f_law_16 6 xs kk 0 σ0 = some (1, σ') := ⟨σR, by simp only [f_law_16, b_1, b_2, b_3, gd_t, A_greedy, B_greedy, bd_s, if_true]; rfl⟩
theorem C_17 (xs : Nat → Int32) : ∃ σ', f_law_17 6 xs kk 0 σ0 = some (1, σ') := ⟨σR, by simp only [f_law_17, b_1, b_2, b_3, gd_t, A_worth, B_worth, bd_s, if_true]; rfl⟩
theorem C_18 (xs : Nat → Int32) : ∃ σ', f_law_18 6 xs kk 0 σ0 = some (1, σ') := ⟨σR, by simp only [f_law_18, b_1, b_2, b_3, gd_t, A_fewest, B_fewest, bd_s, if_true]; rfl⟩
theorem C_19 (xs : Nat → Int32) : ∃ σ', f_law_19 6 xs kk 0 σ0 = some (1, σ') := ⟨σR, by simp only [f_law_19, b_1, b_2, b_3, gd_t, A_plan, B_plan, bd_s, if_true]; rfl⟩
theorem C_20 (xs : Nat → Int32) : ∃ σ', f_law_20 6 xs kk 0 σ0 = some (1, σ') := ⟨σR, by simp only [f_law_20, b_1, b_2, b_3, gd_t, A_planned, B_planned, bd_s, if_true]; rfl⟩
theorem C_21 (xs : Nat → Int32) : ∃ σ', f_law_21 6 xs kk 0 σ0 = some (1, σ') := ⟨σR, by simp only [f_law_21, b_1, b_2, b_3, gd_t, A_move, B_move, bd_s, if_true]; rfl⟩
theorem C_22 (xs : Nat → Int32) : ∃ σ', f_law_22 6 xs kk 0 σ0 = some (1, σ') := ⟨σR, by simp only [f_law_22, b_1, b_2, b_3, gd_t, A_now, B_now, bd_s, if_true]; rfl⟩
theorem C_23 (xs : Nat → Int32) : ∃ σ', f_law_23 6 xs kk 0 σ0 = some (1, σ') := ⟨σR, by simp only [f_law_23, b_1, b_2, b_3, gd_t, A_part, B_part, bd_s, if_true]; rfl⟩
theorem C_24 (xs : Nat → Int32) : ∃ σ', f_law_24 6 xs kk 0 σ0 = some (1, σ') := ⟨σR, by simp only [f_law_24, b_1, b_2, b_3, gd_t, A_entries, B_entries, bd_s, if_true]; rfl⟩
theorem C_25 (xs : Nat → Int32) : ∃ σ', f_law_25 6 xs kk 0 σ0 = some (1, σ') := ⟨σR, by simp only [f_law_25, b_1, b_2, b_3, gd_t, A_entry, B_entry, bd_s, if_true]; rfl⟩
theorem C_26 (xs : Nat → Int32) : ∃ σ', f_law_26 6 xs kk 0 σ0 = some (1, σ') := ⟨σR, by simp only [f_law_26, b_1, b_2, b_3, gd_t, A_bought, B_bought, bd_s, if_true]; rfl⟩
theorem C_27 (xs : Nat → Int32) : ∃ σ', f_law_27 6 xs kk 0 σ0 = some (1, σ') := ⟨σR, by simp only [f_law_27, b_1, b_2, b_3, gd_t, A_will, B_will, bd_s, if_true]; rfl⟩
theorem C_28 (xs : Nat → Int32) : ∃ σ', f_law_28 6 xs kk 0 σ0 = some (1, σ') := ⟨σR, by simp only [f_law_28, b_1, b_2, b_3, gd_t, A_adopt, B_adopt, bd_s, if_true]; rfl⟩
theorem C_29 (xs : Nat → Int32) : ∃ σ', f_law_29 6 xs kk 0 σ0 = some (1, σ') := ⟨σR, by simp only [f_law_29, b_1, b_2, b_3, gd_t, A_fee, B_fee, bd_s, if_true]; rfl⟩
theorem C_30 (xs : Nat → Int32) : ∃ σ', f_law_30 6 xs kk 0 σ0 = some (1, σ') := ⟨σR, by simp only [f_law_30, b_1, b_2, b_3, gd_t, A_resize, B_resize, bd_s, if_true]; rfl⟩
theorem C_31 (xs : Nat → Int32) : ∃ σ', f_law_31 6 xs kk 0 σ0 = some (1, σ') := ⟨σR, by simp only [f_law_31, b_1, b_2, b_3, gd_t, A_order, B_order, bd_s, if_true]; rfl⟩
theorem C_32 (xs : Nat → Int32) : ∃ σ', f_law_32 6 xs kk 0 σ0 = some (1, σ') := ⟨σR, by simp only [f_law_32, b_1, b_2, b_3, gd_t, A_begin, B_begin, bd_s, if_true]; rfl⟩
theorem C_33 (xs : Nat → Int32) : ∃ σ', f_law_33 6 xs kk 0 σ0 = some (1, σ') := ⟨σR, by simp only [f_law_33, b_1, b_2, b_3, gd_t, A_ticks, B_ticks, bd_s, if_true]; rfl⟩
theorem C_34 (xs : Nat → Int32) : ∃ σ', f_law_34 6 xs kk 0 σ0 = some (1, σ') := ⟨σR, by simp only [f_law_34, b_1, b_2, b_3, gd_t, A_call, B_call, bd_s, if_true]; rfl⟩
theorem C_35 (xs : Nat → Int32) : ∃ σ', f_law_35 6 xs kk 0 σ0 = some (1, σ') := ⟨σR, by simp only [f_law_35, b_1, b_2, b_3, gd_t, A_keep, B_keep, bd_s, if_true]; rfl⟩
theorem C_36 (xs : Nat → Int32) : ∃ σ', f_law_36 6 xs kk 0 σ0 = some (1, σ') := ⟨σR, by simp only [f_law_36, b_1, b_2, b_3, gd_t, A_back, B_back, bd_s, if_true]; rfl⟩
theorem C_0 (xs : Nat → Int32) : ∃ σ', f_law_0 6 xs kk 0 σ0 = some (1, σ') := by
  obtain ⟨σ1, a1, a2, a3, a4, -⟩ := feed6 (xs (ix (0 + 1))) (xs (ix (0 + 2))) (xs (ix (0 + 3))) (xs (ix (0 + 4))) (xs (ix (0 + 5))) σ0 0 rfl (by decide)
  obtain ⟨σ2, b1, b2, -⟩ := feed7 (xs (ix (0 + 1))) (xs (ix (0 + 2))) (xs (ix (0 + 3))) (xs (ix (0 + 4))) (xs (ix (0 + 5))) σ1 0 (by rw [a3 102 (by decide) (by decide)]; rfl) (by decide)
  refine ⟨σ2, ?_⟩
  simp only [f_law_0, b_1, b_2, b_3, b_4, b_5, gd_t, a1, b1, bd_s, if_true]
  rfl
theorem C_2 (xs : Nat → Int32) : ∃ σ', f_law_2 6 xs kk 0 σ0 = some (1, σ') := ex_map rfl
theorem C_3 (xs : Nat → Int32) : ∃ σ', f_law_3 6 xs kk 0 σ0 = some (1, σ') := ex_map rfl
theorem C_37 (xs : Nat → Int32) : ∃ σ', f_law_37 6 xs kk 0 σ0 = some (1, σ') := ex_map rfl
theorem C_39 (xs : Nat → Int32) : ∃ σ', f_law_39 6 xs kk 0 σ0 = some (1, σ') := ex_map rfl
theorem C_38 (xs : Nat → Int32) : ∃ σ', f_law_38 6 xs kk 0 σ0 = some (1, σ') := by
  refine ex_map ?_
  simp only [f_law_38, b_1, gd_t]
  generalize xs (ix (0 + 1)) = a
  by_cases h0 : a = 0
  · subst h0; rfl
  · by_cases h1 : a = 1
    · subst h1; rfl
    · by_cases h2 : a = 2
      · subst h2; rfl
      · simp only [f_X6_size_48, f_X6_size_64, f_X6_size, f_X7_size_31, f_X7_size_48, f_X7_size, if_neg h0, if_neg h1, if_neg h2, nmW, bd_s]
        rfl
theorem sp6_n {n : Int32} (h : n < 0 ∨ 0 < n) : f_X6_split n σ0 = some (-1, wi σ0 0 12 2) := by
  unfold f_X6_split
  by_cases h1 : n < 0
  · rw [if_pos h1]; rfl
  · rw [if_neg h1]
    have h2 : 0 < n := h.resolve_left h1
    show (if n ≤ (0 : Int32) then _ else _) = _
    rw [if_neg (Int32.not_le.mpr h2)]
    rfl
theorem sp7_n {n : Int32} (h : n < 0 ∨ 0 < n) : (f_X7_split n (wi σ0 0 12 2)).map Prod.fst = some (-1) := by
  unfold f_X7_split
  by_cases h1 : n < 0
  · simp only [nmW, if_pos h1]; rfl
  · simp only [nmW, if_neg h1]
    have h2 : 0 < n := h.resolve_left h1
    show (Option.map Prod.fst (if n ≤ (0 : Int32) then _ else _)) = _
    rw [if_neg (Int32.not_le.mpr h2)]
    rfl
set_option maxRecDepth 100000 in
theorem sp_0 : (bd (f_X6_split 0 σ0) fun r1 σ1 => bd (f_X7_split 0 σ1) fun r2 σ2 => if r1 = r2 then kk σ2 else none).map Prod.fst = some 1 := by decide +kernel
theorem C_1 (xs : Nat → Int32) : ∃ σ', f_law_1 6 xs kk 0 σ0 = some (1, σ') := by
  simp only [f_law_1, b_1, gd_t]
  generalize xs (ix (0 + 1)) = n
  by_cases h : n = 0
  · subst h
    exact ex_map sp_0
  · have h2 : n < 0 ∨ 0 < n := by
      rcases Int32.lt_or_le n 0 with h3 | h3
      · exact Or.inl h3
      · exact Or.inr (Int32.lt_of_le_of_ne h3 (Ne.symm h))
    rw [sp6_n h2, bd_s]
    have h7 := sp7_n h2
    cases hf : f_X7_split n (wi σ0 0 12 2) with
    | none => rw [hf] at h7; cases h7
    | some o =>
      obtain ⟨r, σ⟩ := o
      rw [hf] at h7
      have h7 : r = -1 := Option.some.inj h7
      subst h7
      exact ⟨σ, rfl⟩
theorem sw_pure (xs : Nat → Int32) (x : Int32) : ∃ σ', f_law_sw 6 xs kk 0 x σ0 = some (1, σ') := by
  unfold f_law_sw
  by_cases h0 : x = 0
  · rw [if_pos h0]; exact C_0 xs
  rw [if_neg h0]
  by_cases h1 : x = 1
  · rw [if_pos h1]; exact C_1 xs
  rw [if_neg h1]
  by_cases h2 : x = 2
  · rw [if_pos h2]; exact C_2 xs
  rw [if_neg h2]
  by_cases h3 : x = 3
  · rw [if_pos h3]; exact C_3 xs
  rw [if_neg h3]
  by_cases h4 : x = 4
  · rw [if_pos h4]; exact C_4 xs
  rw [if_neg h4]
  by_cases h5 : x = 5
  · rw [if_pos h5]; exact C_5 xs
  rw [if_neg h5]
  by_cases h6 : x = 6
  · rw [if_pos h6]; exact C_6 xs
  rw [if_neg h6]
  by_cases h7 : x = 7
  · rw [if_pos h7]; exact C_7 xs
  rw [if_neg h7]
  by_cases h8 : x = 8
  · rw [if_pos h8]; exact C_8 xs
  rw [if_neg h8]
  by_cases h9 : x = 9
  · rw [if_pos h9]; exact C_9 xs
  rw [if_neg h9]
  by_cases h10 : x = 10
  · rw [if_pos h10]; exact C_10 xs
  rw [if_neg h10]
  by_cases h11 : x = 11
  · rw [if_pos h11]; exact C_11 xs
  rw [if_neg h11]
  by_cases h12 : x = 12
  · rw [if_pos h12]; exact C_12 xs
  rw [if_neg h12]
  by_cases h13 : x = 13
  · rw [if_pos h13]; exact C_13 xs
  rw [if_neg h13]
  by_cases h14 : x = 14
  · rw [if_pos h14]; exact C_14 xs
  rw [if_neg h14]
  by_cases h15 : x = 15
  · rw [if_pos h15]; exact C_15 xs
  rw [if_neg h15]
  by_cases h16 : x = 16
  · rw [if_pos h16]; exact C_16 xs
  rw [if_neg h16]
  by_cases h17 : x = 17
  · rw [if_pos h17]; exact C_17 xs
  rw [if_neg h17]
  by_cases h18 : x = 18
  · rw [if_pos h18]; exact C_18 xs
  rw [if_neg h18]
  by_cases h19 : x = 19
  · rw [if_pos h19]; exact C_19 xs
  rw [if_neg h19]
  by_cases h20 : x = 20
  · rw [if_pos h20]; exact C_20 xs
  rw [if_neg h20]
  by_cases h21 : x = 21
  · rw [if_pos h21]; exact C_21 xs
  rw [if_neg h21]
  by_cases h22 : x = 22
  · rw [if_pos h22]; exact C_22 xs
  rw [if_neg h22]
  by_cases h23 : x = 23
  · rw [if_pos h23]; exact C_23 xs
  rw [if_neg h23]
  by_cases h24 : x = 24
  · rw [if_pos h24]; exact C_24 xs
  rw [if_neg h24]
  by_cases h25 : x = 25
  · rw [if_pos h25]; exact C_25 xs
  rw [if_neg h25]
  by_cases h26 : x = 26
  · rw [if_pos h26]; exact C_26 xs
  rw [if_neg h26]
  by_cases h27 : x = 27
  · rw [if_pos h27]; exact C_27 xs
  rw [if_neg h27]
  by_cases h28 : x = 28
  · rw [if_pos h28]; exact C_28 xs
  rw [if_neg h28]
  by_cases h29 : x = 29
  · rw [if_pos h29]; exact C_29 xs
  rw [if_neg h29]
  by_cases h30 : x = 30
  · rw [if_pos h30]; exact C_30 xs
  rw [if_neg h30]
  by_cases h31 : x = 31
  · rw [if_pos h31]; exact C_31 xs
  rw [if_neg h31]
  by_cases h32 : x = 32
  · rw [if_pos h32]; exact C_32 xs
  rw [if_neg h32]
  by_cases h33 : x = 33
  · rw [if_pos h33]; exact C_33 xs
  rw [if_neg h33]
  by_cases h34 : x = 34
  · rw [if_pos h34]; exact C_34 xs
  rw [if_neg h34]
  by_cases h35 : x = 35
  · rw [if_pos h35]; exact C_35 xs
  rw [if_neg h35]
  by_cases h36 : x = 36
  · rw [if_pos h36]; exact C_36 xs
  rw [if_neg h36]
  by_cases h37 : x = 37
  · rw [if_pos h37]; exact C_37 xs
  rw [if_neg h37]
  by_cases h38 : x = 38
  · rw [if_pos h38]; exact C_38 xs
  rw [if_neg h38]
  by_cases h39 : x = 39
  · rw [if_pos h39]; exact C_39 xs
  rw [if_neg h39]
  exact ⟨σ0, rfl⟩
theorem law_pure {L : Nat} (hL : L ≤ 6) (xs : Nat → Int32) : ∃ σ', f_law L xs FU 0 σ0 = some (1, σ') := by
  rw [show FU = 5998 + 1 + 1 from rfl]
  by_cases h : L = 6
  · subst h
    rw [f_law]
    have hk : (fun σ => gd (decide (6 * (0 + 1) ≤ 6)) (f_law 6 xs (5998 + 1) (0 + 1) σ)) = kk := by
      funext σ
      rfl
    show ∃ σ', (if nI 6 - 6 < nI (6 * 0) then some (1, σ0) else gd (inb (nI (6 * 0)) 6) (f_law_sw 6 xs (fun σ => gd (decide (6 * (0 + 1) ≤ 6)) (f_law 6 xs (5998 + 1) (0 + 1) σ)) (nI (6 * 0)) (xs (ix (nI (6 * 0))) &&& 63) σ0)) = some (1, σ')
    rw [hk]
    show ∃ σ', f_law_sw 6 xs kk 0 (xs (ix (nI (6 * 0))) &&& 63) σ0 = some (1, σ')
    exact sw_pure xs _
  · refine ⟨σ0, ?_⟩
    rw [f_law]
    rcases (show L = 0 ∨ L = 1 ∨ L = 2 ∨ L = 3 ∨ L = 4 ∨ L = 5 by omega) with rfl | rfl | rfl | rfl | rfl | rfl <;> rfl
