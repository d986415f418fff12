/-! PURE: split -/
theorem wr_1 {σ : Wd} {k j x : Nat} : (wr σ k j x).1 = σ.1 := rfl
theorem wr_21 {σ : Wd} {k j x : Nat} : (wr σ k j x).2.1 = σ.2.1 := rfl
theorem wr_eq {σ : Wd} {k j x : Nat} : (wr σ k j x).2.2 k j = x := by
  show (if k = k then (fun i => if i = j then x else σ.2.2 k i) else σ.2.2 k) j = x
  rw [if_pos rfl]
  exact if_pos rfl
theorem wr_ne {σ : Wd} {k j i x : Nat} (h : i ≠ j) : (wr σ k j x).2.2 k i = σ.2.2 k i := by
  show (if k = k then (fun i => if i = j then x else σ.2.2 k i) else σ.2.2 k) i = σ.2.2 k i
  rw [if_pos rfl]
  exact if_neg h
theorem read_ok {m N : Nat} {σ τ : Wd} (hm : 10 < m) (hN : N ≤ 900) (hb : ∀ i, i < N → τ.1 115 i = σ.1 2 i ∧ -128 ≤ (σ.1 2 i).toInt ∧ (σ.1 2 i).toInt ≤ 127) (e28 : τ.1 102 28 = I (N : Int)) (e29 : τ.1 102 29 = I 0) (e33 : τ.1 102 33 = I 0) :
    (∃ (σ' τ' : Wd), f_X5_readInto m (I (N : Int)) σ = some (I 0, σ') ∧ f_X7_readAll τ = some (0, τ') ∧ BD σ' τ' ∧ LC m σ σ' ∧ LF τ τ')
    ∨ (∃ (σ' τ' : Wd) (W p L : Int) (V E : Nat) (d : MD) (dl et : Nat → Int), f_X5_readInto m (I (N : Int)) σ = some (I 1, σ') ∧ f_X7_readAll τ = some (0, τ') ∧ PRD m σ' τ' W p L V E d dl et ∧ (W ≠ 0 ∧ 0 < V) ∧ (τ'.1 102 33 = I 0 ∧ σ'.1 1 1 = I 0) ∧ LC m σ σ' ∧ LF τ τ') := by
  obtain ⟨σ1, a1, a2, a3, a4, a5⟩ := cClear (m := m) (σ := σ)
  obtain ⟨σ2, hσ2⟩ : ∃ s, s = wi (wi (wi (wi σ1 1 1 (I 0)) 1 2 (I (-1))) 1 6 (I 0)) 1 5 (I (N : Int)) := ⟨_, rfl⟩
  obtain ⟨τ2, hτ2⟩ : ∃ s, s = wi (wi (wi τ 102 16 (I 0)) 102 19 (I 0)) 102 20 (I 0) := ⟨_, rfl⟩
  have c2 : ∀ k, k ≠ 1 → σ2.1 k = σ1.1 k := fun k h => by rw [hσ2, wi_row h, wi_row h, wi_row h, wi_row h]
  have d2 : ∀ k, k ≠ 102 → τ2.1 k = τ.1 k := fun k h => by rw [hτ2, wi_row h, wi_row h, wi_row h]
  have hB : BY σ2 τ2 N (fun i => (σ.1 2 i).toInt) := by
    refine ⟨hN, fun i hi => ?_⟩
    rw [c2 2 (by decide), a4 2 (by omega) (by omega) (by omega), d2 115 (by decide), (hb i hi).1, I_of]
    exact ⟨rfl, rfl, (hb i hi).2⟩
  have hS : ST σ2 τ2 N 0 := by
    refine ⟨⟨?_, ?_, ?_⟩, ?_, ?_, ?_, Nat.zero_le _⟩
    · rw [hσ2]; simp (disch := omega) only [wi_eq, wi_eq', wi_ne, wi_row, wi_2]
    · rw [hσ2]; simp (disch := omega) only [wi_eq, wi_eq', wi_ne, wi_row, wi_2]; rfl
    · rw [hσ2]; simp (disch := omega) only [wi_eq, wi_eq', wi_ne, wi_row, wi_2]
    · rw [hτ2]; simp (disch := omega) only [wi_eq, wi_eq', wi_ne, wi_row, wi_2]; exact e28
    · rw [hτ2]; simp (disch := omega) only [wi_eq, wi_eq', wi_ne, wi_row, wi_2]; exact e29
    · rw [hτ2]; simp (disch := omega) only [wi_eq, wi_eq', wi_ne, wi_row, wi_2]; exact e33
  have hP : PRD m σ2 τ2 0 0 0 0 0 ((fun _ => 0, fun _ => 0, fun _ => 0, fun _ => 0), fun _ => 0, fun _ => 0, fun _ => 0) (fun _ => 0) (fun _ => 0) := by
    refine ⟨⟨?_, ?_, by decide, by decide, fun _ => ⟨rfl, rfl⟩⟩, fun q => absurd rfl q, ⟨⟨by decide, fun v hv => absurd hv (by omega)⟩, ?_, ?_⟩, ⟨fun _ => [], by decide, fun v hv => absurd hv (by omega)⟩, fun v hv => absurd hv (by omega), ⟨fun v _ hv => ?_, fun v hv => ?_⟩, ⟨by decide, ?_, ?_, fun i hi => absurd hi (by omega), fun i hi => absurd hi (by omega)⟩⟩
    · rw [c2 m (by omega)]; exact a2 0 (by decide)
    · rw [hτ2]; simp (disch := omega) only [wi_eq, wi_eq', wi_ne, wi_row, wi_2]
    · rw [c2 m (by omega)]; exact a2 3 (by decide)
    · rw [hτ2]; simp (disch := omega) only [wi_eq, wi_eq', wi_ne, wi_row, wi_2]; rfl
    · rw [c2 _ (by omega)]; exact (a3 v hv).1
    · rw [c2 _ (by omega)]; exact (a3 v hv).2
    · rw [c2 m (by omega)]; exact a2 4 (by decide)
    · rw [hτ2]; simp (disch := omega) only [wi_eq, wi_eq', wi_ne, wi_row, wi_2]; rfl
  have l2 : LC m σ σ2 := ⟨fun k h1 _ h3 => by rw [c2 k h1, a4 k (by omega) (by omega) (by omega)], by rw [hσ2]; exact a5⟩
  have f2 : LF τ τ2 := by rw [hτ2]; exact LFt (LFv (by omega)) (LFt (LFv (by omega)) (LFv (by omega)))
  obtain ⟨σ3, τ3, pl, k, l, n, b1, b2, b3, -, b5, b6⟩ := step0_ok hB hS
  have ec : f_X5_readInto m (I (N : Int)) σ = f_X5_readInto_30 m FU (I 0) σ3 := by
    unfold f_X5_readInto
    rw [a1, bd_s, nm_W, nm_W, nm_W, nm_W, show wi (wi (wi (wi σ1 1 1 (0 : Int32)) 1 2 (-1 : Int32)) 1 6 (0 : Int32)) 1 5 (I (N : Int)) = σ2 from hσ2.symm, b1, bd_s]
    rfl
  have er : f_X7_readAll τ = bd (f_X7_readLine τ3) fun _ s => f_X7_readAll_23 FU s := by
    unfold f_X7_readAll
    rw [nm_W, nm_W, nm_W, show wi (wi (wi τ 102 16 (0 : Int32)) 102 19 (0 : Int32)) 102 20 (0 : Int32) = τ2 from hτ2.symm, b2, bd_s]
  rw [ec, er]
  rcases text_ok hm 901 0 FU FU pl 0 0 0 σ3 τ3 k n 0 0 0 l _ _ _ rfl (by omega) (by show _ < 6000; omega) (by show _ < 6000; omega) (Nat.zero_le _) (BY_f hB (CFG b5) b6) b3 (PRD_f hm hP (CFG b5) b6) with ⟨σ4, τ4, s1, s2, s3, s4, s5⟩ | ⟨σ4, τ4, W, p, L, V, E, d, dl, et, s1, s2, s3, s4, s5, s6, s7⟩
  · exact Or.inl ⟨σ4, τ4, s1, s2, s3, LCt l2 (LCt (CGL (CFG b5)) s4), LFt f2 (LFt (RXL b6) s5)⟩
  · exact Or.inr ⟨σ4, τ4, W, p, L, V, E, d, dl, et, s1, s2, s3, s4, s5, LCt l2 (LCt (CGL (CFG b5)) s6), LFt f2 (LFt (RXL b6) s7)⟩
theorem split_no {σ τ : Wd} {tp : Nat} {a : Int} (ha : R a) (h : a < 0 ∨ (tp : Int) < a) (ht : tp ≤ 900) (h1 : σ.1 1 0 = I (tp : Int)) (h2 : τ.1 102 27 = I (tp : Int)) : f_X6_split (I a) σ = some (I (-1), wi σ 0 12 (I 2)) ∧ f_X7_split (I a) τ = some (I (-1), wi (wi (wi τ 102 0 (I 0)) 102 1 (I 2)) 102 2 (I (-1))) := by
  unfold R at ha
  constructor
  · unfold f_X6_split f_X6_split_15
    rcases h with h | h
    · simp (disch := omega) only [gd_t, bd_s, nm_W, nm_I, I_add, I_sub, I_mul, I_neg, I_le_t, I_le_f, I_lt_t, I_lt_f, I_eq_t, I_eq_f, I_inb', I_ix', Int.toNat_natCast, decide_true, decide_false, Bool.not_false, Bool.not_true, if_true, if_false, wi_eq, wi_eq', wi_ne, wi_row, wi_2, N0, N1, N2, N3, N4, N5, N6, N7, N8, N9, N10, N11, N12, N13, N14, N15, N16, N17, N18, N19, N20, N21, N22, N23, N24, N25, N26, N27, N28, N29, N30, N31, N32, N33, N34, N35, N36, N37, N38, N39, N40, N41, N42, N43, N45, N48, N57, N59, N88, N89, N97, N99, N120, N121, N122, N179, N200, N255, N300, N400, N880, N900, N999, N1019, N50000000, N100000000, N1000000000, N2147483647, N2147483648]
    · simp (disch := omega) only [gd_t, bd_s, nm_W, nm_I, I_add, I_sub, I_mul, I_neg, I_le_t, I_le_f, I_lt_t, I_lt_f, I_eq_t, I_eq_f, I_inb', I_ix', Int.toNat_natCast, decide_true, decide_false, Bool.not_false, Bool.not_true, if_true, if_false, wi_eq, wi_eq', wi_ne, wi_row, wi_2, N0, N1, N2, N3, N4, N5, N6, N7, N8, N9, N10, N11, N12, N13, N14, N15, N16, N17, N18, N19, N20, N21, N22, N23, N24, N25, N26, N27, N28, N29, N30, N31, N32, N33, N34, N35, N36, N37, N38, N39, N40, N41, N42, N43, N45, N48, N57, N59, N88, N89, N97, N99, N120, N121, N122, N179, N200, N255, N300, N400, N880, N900, N999, N1019, N50000000, N100000000, N1000000000, N2147483647, N2147483648, h1]
  · unfold f_X7_split f_X7_split_17
    rcases h with h | h
    · simp (disch := omega) only [gd_t, bd_s, nm_W, nm_I, I_add, I_sub, I_mul, I_neg, I_le_t, I_le_f, I_lt_t, I_lt_f, I_eq_t, I_eq_f, I_inb', I_ix', Int.toNat_natCast, decide_true, decide_false, Bool.not_false, Bool.not_true, if_true, if_false, wi_eq, wi_eq', wi_ne, wi_row, wi_2, N0, N1, N2, N3, N4, N5, N6, N7, N8, N9, N10, N11, N12, N13, N14, N15, N16, N17, N18, N19, N20, N21, N22, N23, N24, N25, N26, N27, N28, N29, N30, N31, N32, N33, N34, N35, N36, N37, N38, N39, N40, N41, N42, N43, N45, N48, N57, N59, N88, N89, N97, N99, N120, N121, N122, N179, N200, N255, N300, N400, N880, N900, N999, N1019, N50000000, N100000000, N1000000000, N2147483647, N2147483648, refR]
    · simp (disch := omega) only [gd_t, bd_s, nm_W, nm_I, I_add, I_sub, I_mul, I_neg, I_le_t, I_le_f, I_lt_t, I_lt_f, I_eq_t, I_eq_f, I_inb', I_ix', Int.toNat_natCast, decide_true, decide_false, Bool.not_false, Bool.not_true, if_true, if_false, wi_eq, wi_eq', wi_ne, wi_row, wi_2, N0, N1, N2, N3, N4, N5, N6, N7, N8, N9, N10, N11, N12, N13, N14, N15, N16, N17, N18, N19, N20, N21, N22, N23, N24, N25, N26, N27, N28, N29, N30, N31, N32, N33, N34, N35, N36, N37, N38, N39, N40, N41, N42, N43, N45, N48, N57, N59, N88, N89, N97, N99, N120, N121, N122, N179, N200, N255, N300, N400, N880, N900, N999, N1019, N50000000, N100000000, N1000000000, N2147483647, N2147483648, h2, refR]
theorem split_c {σ : Wd} {tp N : Nat} (hN : N ≤ tp) (ht : tp ≤ 900) (h1 : σ.1 1 0 = I (tp : Int)) {m m' : Nat} (hm' : σ.2.2 0 3 = m') (bm' : bM m' = true) {r : Int32} {s : Wd} (e : f_X5_readInto m' (I (N : Int)) σ = some (r, s)) (hs : s.2 = σ.2) (hm : σ.2.2 0 4 = m) (bm : bM m = true) :
    f_X6_split (I (N : Int)) σ = if r = 0 then some (I (-1), wi (wi (wi s 1 0 (I 0)) 0 13 ((wi s 1 0 (I 0)).1 1 1)) 0 12 (I 4)) else bd (f_X4_clear 63 (wr (wr (wi (wi s 1 0 (I 0)) 0 13 ((wi s 1 0 (I 0)).1 1 1)) 0 3 m) 0 4 m')) fun _ σ11 => gd (bM ((wi (wi (wi σ11 0 10 (I 1)) 0 11 (I 0)) 0 12 (I 0)).2.2 0 4)) (some ((wi (wi (wi σ11 0 10 (I 1)) 0 11 (I 0)) 0 12 (I 0)).1 ((wi (wi (wi σ11 0 10 (I 1)) 0 11 (I 0)) 0 12 (I 0)).2.2 0 4) 3, wi (wi (wi σ11 0 10 (I 1)) 0 11 (I 0)) 0 12 (I 0))) := by
  have n1 : ¬ I (N : Int) < (0 : Int32) := by show ¬ I (N : Int) < I 0; rw [I_lt (by unfold R; omega) (by unfold R; omega)]; omega
  have n2 : I (N : Int) ≤ σ.1 1 0 := by rw [h1, I_le (by unfold R; omega) (by unfold R; omega)]; omega
  have q3 : (wi (wi s 1 0 (0 : Int32)) 0 13 ((wi s 1 0 (0 : Int32)).1 1 1)).2.2 0 3 = m' := by show s.2.2 0 3 = m'; rw [hs]; exact hm'
  have q4 : (wi (wi s 1 0 (0 : Int32)) 0 13 ((wi s 1 0 (0 : Int32)).1 1 1)).2.2 0 4 = m := by show s.2.2 0 4 = m; rw [hs]; exact hm
  unfold f_X6_split
  rw [if_neg n1, if_pos n2, hm', bm', gd_t, e, bd_s, nm_W, nm_W]
  by_cases c : r = 0
  · rw [if_pos c, if_pos c]
    rfl
  · rw [if_neg c, if_neg c, q3, q4, bm', bm, gd_t, gd_t, nm_W, nm_W]
    rfl
theorem split_r {τ : Wd} {tp N : Nat} (hN : N ≤ tp) (ht : tp ≤ 900) (h1 : τ.1 102 27 = I (tp : Int)) {s : Wd} {f : Int} (e : f_X7_readAll (wi (wi (wi (wi (wi τ 102 0 (I 0)) 102 28 (I (N : Int))) 102 27 (I 0)) 102 29 (I 0)) 102 33 (I 0)) = some (0, s)) (h33 : s.1 102 33 = I f) (hf : 0 ≤ f ∧ f ≤ 6) :
    f_X7_split (I (N : Int)) τ = if f = 0 then bd (f_X7_takesOver s) fun _ σ7 => bd (f_X7_good (σ7.1 102 14) σ7) fun r8 σ9 => some (r8, σ9) else some (I (-1), wi (wi s 102 1 (I 4)) 102 2 (s.1 102 31)) := by
  have n1 : ¬ I (N : Int) < (0 : Int32) := by show ¬ I (N : Int) < I 0; rw [I_lt (by unfold R; omega) (by unfold R; omega)]; omega
  have n2 : I (N : Int) ≤ (wi τ 102 0 (0 : Int32)).1 102 27 := by rw [wi_ne (by decide), h1, I_le (by unfold R; omega) (by unfold R; omega)]; omega
  unfold f_X7_split
  rw [nm_W, if_neg n1, if_pos n2, nm_W, nm_W, nm_W, nm_W, show f_X7_readAll (wi (wi (wi (wi (wi τ 102 0 (0 : Int32)) 102 28 (I (N : Int))) 102 27 (0 : Int32)) 102 29 (0 : Int32)) 102 33 (0 : Int32)) = some (0, s) from e, bd_s, h33]
  by_cases c : f = 0
  · rw [if_pos c, if_pos (show I f ≤ (0 : Int32) by rw [c]; decide)]
  · rw [if_neg c, if_neg (show ¬ I f ≤ (0 : Int32) by show ¬ I f ≤ I 0; rw [I_le (by unfold R; omega) (by unfold R; omega)]; omega), nm_W, nm_W]
    rw [wi_ne (by decide)]
    rfl
