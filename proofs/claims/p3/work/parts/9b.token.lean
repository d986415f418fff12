/-! PURE: the text: blanks, signs, words, numbers, in step -/
theorem wl_1 {σ : Wd} {k j : Nat} {x : Int64} : (wl σ k j x).1 = σ.1 := rfl
theorem wl_eq {σ : Wd} {k j : Nat} {x : Int64} : (wl σ k j x).2.1 k j = x := by
  show (if k = k then vp_updL (σ.2.1 k) j x else σ.2.1 k) j = x
  rw [if_pos rfl]
  exact if_pos rfl
theorem wl_ne {σ : Wd} {k j i : Nat} {x : Int64} (h : i ≠ j) : (wl σ k j x).2.1 k i = σ.2.1 k i := by
  show (if k = k then vp_updL (σ.2.1 k) j x else σ.2.1 k) i = σ.2.1 k i
  rw [if_pos rfl]
  exact if_neg h
theorem wl_row {σ : Wd} {k j a : Nat} {x : Int64} (h : a ≠ k) : (wl σ k j x).2.1 a = σ.2.1 a := if_neg h
theorem wl_22 {σ : Wd} {k j : Nat} {x : Int64} : (wl σ k j x).2.2 = σ.2.2 := rfl
def BY (σ τ : Wd) (N : Nat) (bt : Nat → Int) : Prop := N ≤ 900 ∧ ∀ i, i < N → σ.1 2 i = I (bt i) ∧ τ.1 115 i = I (bt i) ∧ -128 ≤ bt i ∧ bt i ≤ 127
/-- what a step leaves alone in the class -/
def CF (σ σ' : Wd) : Prop := (∀ k, k ≠ 1 → σ'.1 k = σ.1 k) ∧ σ'.1 1 10 = σ.1 1 10 ∧ σ'.2 = σ.2
/-- what a reader leaves alone there -/
def CG (σ σ' : Wd) : Prop := (∀ k, k ≠ 1 → σ'.1 k = σ.1 k) ∧ σ'.2 = σ.2
def RX (τ τ' : Wd) : Prop := (∀ k, k ≠ 102 → τ'.1 k = τ.1 k) ∧ (∀ i, i < 29 ∨ 33 < i → τ'.1 102 i = τ.1 102 i) ∧ (∀ k, k ≠ 102 → τ'.2.1 k = τ.2.1 k) ∧ τ'.2.2 = τ.2.2
theorem CFr {σ : Wd} : CF σ σ := ⟨fun _ _ => rfl, rfl, rfl⟩
theorem CGr {σ : Wd} : CG σ σ := ⟨fun _ _ => rfl, rfl⟩
theorem CFG {σ σ' : Wd} (h : CF σ σ') : CG σ σ' := ⟨h.1, h.2.2⟩
theorem CGt {a b c : Wd} (h : CG a b) (g : CG b c) : CG a c := ⟨fun k hk => by rw [g.1 k hk, h.1 k hk], by rw [g.2, h.2]⟩
theorem CGw {σ : Wd} {j : Nat} {x : Int32} : CG σ (wi σ 1 j x) := ⟨fun k hk => wi_row hk, rfl⟩
theorem RXr {τ : Wd} : RX τ τ := ⟨fun _ _ => rfl, fun _ _ => rfl, fun _ _ => rfl, rfl⟩
theorem CFt {a b c : Wd} (h : CF a b) (g : CF b c) : CF a c := ⟨fun k hk => by rw [g.1 k hk, h.1 k hk], by rw [g.2.1, h.2.1], by rw [g.2.2, h.2.2]⟩
theorem RXt {a b c : Wd} (h : RX a b) (g : RX b c) : RX a c := ⟨fun k hk => by rw [g.1 k hk, h.1 k hk], fun i hi => by rw [g.2.1 i hi, h.2.1 i hi], fun k hk => by rw [g.2.2.1 k hk, h.2.2.1 k hk], by rw [g.2.2.2, h.2.2.2]⟩
theorem CFw {σ : Wd} {j : Nat} {x : Int32} (h : j ≠ 10 := by decide) : CF σ (wi σ 1 j x) := ⟨fun k hk => wi_row hk, wi_ne (Ne.symm h), rfl⟩
theorem RXw {τ : Wd} {j : Nat} {x : Int32} (h : 29 ≤ j ∧ j ≤ 33) : RX τ (wi τ 102 j x) := ⟨fun k hk => wi_row hk, fun i hi => wi_ne (by omega), fun _ _ => rfl, rfl⟩
theorem RXl {τ : Wd} {x : Int64} : RX τ (wl τ 102 34 x) := ⟨fun k hk => rfl, fun i hi => rfl, fun k hk => wl_row hk, rfl⟩
theorem BY_f {σ τ σ' τ' : Wd} {N : Nat} {bt : Nat → Int} (h : BY σ τ N bt) (c : CG σ σ') (r : RX τ τ') : BY σ' τ' N bt := by
  unfold BY at h ⊢
  rw [c.1 2 (by decide), r.1 115 (by decide)]
  exact h
def ST (σ τ : Wd) (N nx : Nat) : Prop := (σ.1 1 5 = I (N : Int) ∧ σ.1 1 6 = I (nx : Int) ∧ σ.1 1 1 = I 0) ∧ τ.1 102 28 = I (N : Int) ∧ τ.1 102 29 = I (nx : Int) ∧ τ.1 102 33 = I 0 ∧ nx ≤ N
theorem and255 {b : Int} (h1 : -128 ≤ b) (h2 : b ≤ 127) : I b &&& I 255 = I (b % 256) := by
  have key : ∀ n : Fin 256, I ((n.val : Int) - 128) &&& I 255 = I (((n.val : Int) - 128) % 256) := by decide +kernel
  have := key ⟨(b + 128).toNat, by omega⟩
  rw [show (((⟨(b + 128).toNat, by omega⟩ : Fin 256).val : Nat) : Int) - 128 = b by show (((b + 128).toNat : Nat) : Int) - 128 = b; omega] at this
  exact this
theorem rByte {τ : Wd} {N i : Nat} {b : Int} (hN : N ≤ 900) (h28 : τ.1 102 28 = I (N : Int)) (hi : i < N) (hb : τ.1 115 i = I b) (b1 : -128 ≤ b) (b2 : b ≤ 127) : f_X7_byteAt (I (i : Int)) τ = some (I (b % 256), τ) := by
  unfold f_X7_byteAt f_X7_byteAt_22
  simp (disch := omega) only [gd_t, bd_s, nm_W, nm_I, I_add, I_sub, I_mul, I_neg, I_le_t, I_le_f, I_lt_t, I_lt_f, I_eq_t, I_eq_f, I_inb', I_ix', Int.toNat_natCast, decide_true, decide_false, Bool.not_false, Bool.not_true, if_true, if_false, wi_eq, wi_eq', wi_ne, wi_row, wi_2, N0, N1, N2, N3, N4, N5, N6, N7, N8, N9, N10, N11, N12, N13, N14, N15, N16, N17, N18, N19, N20, N21, N22, N23, N24, N25, N26, N27, N28, N29, N30, N31, N32, N33, N34, N35, N36, N37, N38, N39, N40, N41, N42, N43, N45, N48, N57, N59, N88, N89, N97, N99, N120, N121, N122, N179, N200, N255, N300, N400, N880, N900, N999, N1019, N50000000, N100000000, N1000000000, N2147483647, N2147483648, h28, hb, and255]
theorem rByteE {τ : Wd} {N : Nat} (hN : N ≤ 900) (h28 : τ.1 102 28 = I (N : Int)) : f_X7_byteAt (I (N : Int)) τ = some (I (-1), τ) := by
  unfold f_X7_byteAt f_X7_byteAt_22
  simp (disch := omega) only [gd_t, bd_s, nm_W, nm_I, I_add, I_sub, I_mul, I_neg, I_le_t, I_le_f, I_lt_t, I_lt_f, I_eq_t, I_eq_f, I_inb', I_ix', Int.toNat_natCast, decide_true, decide_false, Bool.not_false, Bool.not_true, if_true, if_false, wi_eq, wi_eq', wi_ne, wi_row, wi_2, N0, N1, N2, N3, N4, N5, N6, N7, N8, N9, N10, N11, N12, N13, N14, N15, N16, N17, N18, N19, N20, N21, N22, N23, N24, N25, N26, N27, N28, N29, N30, N31, N32, N33, N34, N35, N36, N37, N38, N39, N40, N41, N42, N43, N45, N48, N57, N59, N88, N89, N97, N99, N120, N121, N122, N179, N200, N255, N300, N400, N880, N900, N999, N1019, N50000000, N100000000, N1000000000, N2147483647, N2147483648, h28]
def nxt (σ2 : Wd) : Option (Int32 × Wd) := nmW (wi σ2 102 31 (σ2.1 102 29)) fun σ4 => bd (f_X7_byteAt (σ4.1 102 29) σ4) fun r5 σ6 => if r5 = (-1 : Int32) then (nmW (wi σ6 102 30 (1 : Int32)) fun σ7 => (f_X7_next_105 σ7)) else (bd (f_X7_in r5 (97 : Int32) (122 : Int32) σ6) fun r8 σ9 => if r8 = 0 then (bd (f_X7_in r5 (48 : Int32) (57 : Int32) σ9) fun r10 σ11 => if r10 = 0 then (bd (f_X7_nextSign r5 σ11) fun _ σ12 => (f_X7_next_105 σ12)) else (bd (f_X7_nextWhole σ11) fun _ σ13 => (f_X7_next_105 σ13))) else (bd (f_X7_nextWord σ9) fun _ σ14 => (f_X7_next_105 σ14)))
theorem skip_ok {N : Nat} {bt : Nat → Int} : ∀ (r nx n : Nat) (σ τ : Wd), nx + r = N → r < n → BY σ τ N bt → ST σ τ N nx →
    ∃ (σ' τ' : Wd) (nx' : Nat), nx ≤ nx' ∧ (nx' < N → bt nx' ≠ 32) ∧ ST σ' τ' N nx' ∧ f_X5_step_0 n σ = f_X5_step_38 σ' ∧ f_X7_next_8 n τ = nxt τ' ∧ CF σ σ' ∧ RX τ τ'
  | 0, nx, n + 1, σ, τ, hr, _, hB, hS => by
    obtain ⟨⟨c5, c6, c1⟩, e28, e29, e33, hn⟩ := hS
    have hN := hB.1
    have en : nx = N := by omega
    subst en
    refine ⟨σ, τ, nx, Nat.le_refl _, fun h => absurd h (by omega), ⟨⟨c5, c6, c1⟩, e28, e29, e33, hn⟩, ?_, ?_, CFr, RXr⟩
    · rw [f_X5_step_0]
      dsimp only
      rw [if_pos (by rw [c5, c6]; exact Int32.le_refl _)]
    · rw [f_X7_next_8]
      dsimp only
      rw [e29, rByteE hN e28, bd_s, if_neg (by decide)]
      unfold nxt
      rw [e29]
  | r + 1, nx, n + 1, σ, τ, hr, hn1, hB, hS => by
    have hS0 := hS
    obtain ⟨⟨c5, c6, c1⟩, e28, e29, e33, hn⟩ := hS
    have hN := hB.1
    obtain ⟨b1, b2, b3, b4⟩ := hB.2 nx (by omega)
    have eb := rByte hN e28 (show nx < N by omega) b2 b3 b4
    have nle : ¬ σ.1 1 5 ≤ σ.1 1 6 := by rw [c5, c6, I_le (by unfold R; omega) (by unfold R; omega)]; omega
    have g1 : inb (σ.1 1 6) 900 = true := by rw [c6]; exact inI (by omega) (by decide)
    have g2 : ix (σ.1 1 6) = nx := by rw [c6]; exact ixI (by omega)
    by_cases c : bt nx = 32
    · obtain ⟨σ', τ', nx', q1, q2, q3, q4, q5, q6, q7⟩ := skip_ok r (nx + 1) n (wi σ 1 6 (σ.1 1 6 + 1)) (wi τ 102 29 (τ.1 102 29 + 1)) (by omega) (by omega) (BY_f hB CGw (RXw (by omega))) ⟨⟨by rw [wi_ne (by decide)]; exact c5, by rw [wi_eq, c6]; show I _ + I 1 = _; rw [I_add]; rfl, by rw [wi_ne (by decide)]; exact c1⟩, by rw [wi_ne (by decide)]; exact e28, by rw [wi_eq, e29]; show I _ + I 1 = _; rw [I_add]; rfl, by rw [wi_ne (by decide)]; exact e33, by omega⟩
      refine ⟨σ', τ', nx', by omega, q2, q3, ?_, ?_, CFt CFw q6, RXt (RXw (by omega)) q7⟩
      · rw [← q4, f_X5_step_0]
        dsimp only
        rw [if_neg nle, g1, gd_t, g2, b1, c, if_pos (show I 32 = (32 : Int32) from rfl), nm_W]
      · rw [← q5, f_X7_next_8]
        dsimp only
        rw [e29, eb, bd_s, c, if_pos (by decide), nm_W, e29]
    · refine ⟨σ, τ, nx, Nat.le_refl _, fun _ => c, hS0, ?_, ?_, CFr, RXr⟩
      · rw [f_X5_step_0]
        dsimp only
        rw [if_neg nle, g1, gd_t, g2, b1, if_neg (show ¬ I (bt nx) = (32 : Int32) by show ¬ I (bt nx) = I 32; rw [I_eq (by unfold R; omega) (by unfold R; omega)]; exact c)]
      · rw [f_X7_next_8]
        dsimp only
        rw [e29, eb, bd_s, if_neg (show ¬ I (bt nx % 256) = (32 : Int32) by show ¬ I (bt nx % 256) = I 32; rw [I_eq (by unfold R; omega) (by unfold R; omega)]; omega)]
        unfold nxt
        rw [e29]
/-- what stands where a token is read: its place pl, its sort k, a word's letters l, a number n -/
def TK (σ τ : Wd) (N : Nat) (bt : Nat → Int) (pl : Nat) (k : Int) (l : List Int) (n : Int) : Prop :=
  ∃ nx : Nat, (pl ≤ nx ∧ nx ≤ N ∧ (k = 3 → pl + 1 ≤ nx)) ∧ (σ.1 1 5 = I (N : Int) ∧ σ.1 1 6 = I (nx : Int) ∧ σ.1 1 7 = I k ∧ σ.1 1 8 = I (pl : Int) ∧ σ.1 1 1 = I 0) ∧ (τ.1 102 28 = I (N : Int) ∧ τ.1 102 31 = I (pl : Int) ∧ τ.1 102 33 = I 0 ∧ (k ≠ 5 → τ.1 102 29 = I (nx : Int)))
  ∧ ((k = 0 ∧ τ.1 102 30 = I 1) ∨ (k = 1 ∧ τ.1 102 30 = I 2 ∧ l = rl (fun i => bt (pl + i)) (nx - pl) ∧ nx - pl ≤ 6 ∧ ltr l ∧ σ.1 1 9 = I (w27 l) ∧ τ.2.1 102 34 = w64 l) ∨ (k = 2 ∧ τ.1 102 30 = I 3 ∧ 0 ≤ n ∧ n ≤ 999 ∧ σ.1 1 9 = I n ∧ τ.1 102 32 = I n)
    ∨ (k = 3 ∧ τ.1 102 30 = I 4 ∧ τ.1 102 32 = I 59) ∨ (k = 4 ∧ τ.1 102 30 = I 4 ∧ τ.1 102 32 = I 45) ∨ (k = 5 ∧ τ.1 102 30 = I 0))
theorem tok_fin {N nx : Nat} {bt : Nat → Int} {σ τ : Wd} (hB : BY σ τ N bt) (hS : ST σ τ N nx) (h : nx = N) : ∃ (σ' τ' : Wd) (k : Int) (l : List Int) (n : Int), f_X5_step_38 σ = some (0, σ') ∧ nxt τ = some (0, τ') ∧ TK σ' τ' N bt nx k l n ∧ CF σ σ' ∧ RX τ τ' := by
  subst h
  obtain ⟨⟨c5, c6, c1⟩, e28, e29, e33, hn⟩ := hS
  have hN := hB.1
  have eb := rByteE (τ := wi τ 102 31 (I (nx : Int))) hN (by rw [wi_ne (by decide)]; exact e28)
  refine ⟨wi (wi (wi σ 1 8 (I (nx : Int))) 1 9 (I 0)) 1 7 (I 0), wi (wi τ 102 31 (I (nx : Int))) 102 30 (I 1), 0, [], 0, ?_, ?_, ⟨nx, ⟨Nat.le_refl _, Nat.le_refl _, fun q => by omega⟩, ⟨?_, ?_, ?_, ?_, ?_⟩, ⟨?_, ?_, ?_, fun _ => ?_⟩, Or.inl ⟨rfl, wi_eq⟩⟩, CFt CFw (CFt CFw CFw), RXt (RXw (by omega)) (RXw (by omega))⟩
  · unfold f_X5_step_38 f_X5_step_79 f_X5_step_140
    simp (disch := omega) only [gd_t, bd_s, nm_W, nm_I, I_add, I_sub, I_mul, I_neg, I_le_t, I_le_f, I_lt_t, I_lt_f, I_eq_t, I_eq_f, I_inb', I_ix', Int.toNat_natCast, decide_true, decide_false, Bool.not_false, Bool.not_true, if_true, if_false, wi_eq, wi_eq', wi_ne, wi_row, wi_2, N0, N1, N2, N3, N4, N5, N6, N7, N8, N9, N10, N11, N12, N13, N14, N15, N16, N17, N18, N19, N20, N21, N22, N23, N24, N25, N26, N27, N28, N29, N30, N31, N32, N33, N34, N35, N36, N37, N38, N39, N40, N41, N42, N43, N45, N48, N57, N59, N88, N89, N97, N99, N120, N121, N122, N179, N200, N255, N300, N400, N880, N900, N999, N1019, N50000000, N100000000, N1000000000, N2147483647, N2147483648, c5, c6]
  · unfold nxt f_X7_next_105
    simp (disch := omega) only [gd_t, bd_s, nm_W, nm_I, I_add, I_sub, I_mul, I_neg, I_le_t, I_le_f, I_lt_t, I_lt_f, I_eq_t, I_eq_f, I_inb', I_ix', Int.toNat_natCast, decide_true, decide_false, Bool.not_false, Bool.not_true, if_true, if_false, wi_eq, wi_eq', wi_ne, wi_row, wi_2, N0, N1, N2, N3, N4, N5, N6, N7, N8, N9, N10, N11, N12, N13, N14, N15, N16, N17, N18, N19, N20, N21, N22, N23, N24, N25, N26, N27, N28, N29, N30, N31, N32, N33, N34, N35, N36, N37, N38, N39, N40, N41, N42, N43, N45, N48, N57, N59, N88, N89, N97, N99, N120, N121, N122, N179, N200, N255, N300, N400, N880, N900, N999, N1019, N50000000, N100000000, N1000000000, N2147483647, N2147483648, e29, eb]
  · simp (disch := omega) only [wi_eq, wi_eq', wi_ne, wi_row, wi_2]; exact c5
  · simp (disch := omega) only [wi_eq, wi_eq', wi_ne, wi_row, wi_2]; exact c6
  · simp (disch := omega) only [wi_eq, wi_eq', wi_ne, wi_row, wi_2]
  · simp (disch := omega) only [wi_eq, wi_eq', wi_ne, wi_row, wi_2]
  · simp (disch := omega) only [wi_eq, wi_eq', wi_ne, wi_row, wi_2]; exact c1
  · simp (disch := omega) only [wi_eq, wi_eq', wi_ne, wi_row, wi_2]; exact e28
  · simp (disch := omega) only [wi_eq, wi_eq', wi_ne, wi_row, wi_2]
  · simp (disch := omega) only [wi_eq, wi_eq', wi_ne, wi_row, wi_2]; exact e33
  · simp (disch := omega) only [wi_eq, wi_eq', wi_ne, wi_row, wi_2]; exact e29
theorem nxt_1 {τ : Wd} {nx : Nat} {c : Int} (e29 : τ.1 102 29 = I (nx : Int)) (eb : f_X7_byteAt (I (nx : Int)) (wi τ 102 31 (I (nx : Int))) = some (I c, wi τ 102 31 (I (nx : Int)))) (hc : 0 ≤ c ∧ c ≤ 255) : nxt τ = bd (f_X7_in (I c) (I 97) (I 122) (wi τ 102 31 (I (nx : Int)))) fun r8 σ9 => if r8 = 0 then (bd (f_X7_in (I c) (I 48) (I 57) σ9) fun r10 σ11 => if r10 = 0 then (bd (f_X7_nextSign (I c) σ11) fun _ σ12 => (f_X7_next_105 σ12)) else (bd (f_X7_nextWhole σ11) fun _ σ13 => (f_X7_next_105 σ13))) else (bd (f_X7_nextWord σ9) fun _ σ14 => (f_X7_next_105 σ14)) := by
  unfold nxt
  rw [nm_W, e29, wi_ne (show 29 ≠ 31 by decide), e29, eb, bd_s, if_neg (show ¬ I c = (-1 : Int32) by show ¬ I c = I (-1); rw [I_eq (by unfold R; omega) (by unfold R; omega)]; omega)]
  rfl
theorem tok_sgn {N nx : Nat} {bt : Nat → Int} {σ τ : Wd} {k b : Int} (hB : BY σ τ N bt) (hS : ST σ τ N nx) (h : nx < N) (hb : bt nx = b) (hk : (k = 3 ∧ b = 59) ∨ (k = 4 ∧ b = 45)) : ∃ (σ' τ' : Wd) (k : Int) (l : List Int) (n : Int), f_X5_step_38 σ = some (0, σ') ∧ nxt τ = some (0, τ') ∧ TK σ' τ' N bt nx k l n ∧ CF σ σ' ∧ RX τ τ' := by
  obtain ⟨⟨c5, c6, c1⟩, e28, e29, e33, hn⟩ := hS
  have hN := hB.1
  obtain ⟨b1, b2, b3, b4⟩ := hB.2 nx h
  rw [hb] at b1 b2 b3 b4
  have eb := rByte (τ := wi τ 102 31 (I (nx : Int))) hN (by rw [wi_ne (by decide)]; exact e28) h (by rw [wi_row (by decide)]; exact b2) b3 b4
  rw [show b % 256 = b by omega] at eb
  have i1 := rIn0 (σ := wi τ 102 31 (I (nx : Int))) (z := b) (lo := 97) (hi := 122) (by unfold R; omega) (by unfold R; omega) (by unfold R; omega) (by omega)
  have i2 := rIn0 (σ := wi τ 102 31 (I (nx : Int))) (z := b) (lo := 48) (hi := 57) (by unfold R; omega) (by unfold R; omega) (by unfold R; omega) (by omega)
  have es : f_X5_sortOf (I b) (wi (wi σ 1 8 (I (nx : Int))) 1 9 (I 0)) = some (I k, wi (wi σ 1 8 (I (nx : Int))) 1 9 (I 0)) := by
    unfold f_X5_sortOf f_X5_sortOf_14 f_X5_sortOf_28 f_X5_sortOf_49
    rcases hk with ⟨h1, h2⟩ | ⟨h1, h2⟩
    · simp (disch := omega) only [gd_t, bd_s, nm_W, nm_I, I_add, I_sub, I_mul, I_neg, I_le_t, I_le_f, I_lt_t, I_lt_f, I_eq_t, I_eq_f, I_inb', I_ix', Int.toNat_natCast, decide_true, decide_false, Bool.not_false, Bool.not_true, if_true, if_false, wi_eq, wi_eq', wi_ne, wi_row, wi_2, N0, N1, N2, N3, N4, N5, N6, N7, N8, N9, N10, N11, N12, N13, N14, N15, N16, N17, N18, N19, N20, N21, N22, N23, N24, N25, N26, N27, N28, N29, N30, N31, N32, N33, N34, N35, N36, N37, N38, N39, N40, N41, N42, N43, N45, N48, N57, N59, N88, N89, N97, N99, N120, N121, N122, N179, N200, N255, N300, N400, N880, N900, N999, N1019, N50000000, N100000000, N1000000000, N2147483647, N2147483648]
      rw [h1]
    · simp (disch := omega) only [gd_t, bd_s, nm_W, nm_I, I_add, I_sub, I_mul, I_neg, I_le_t, I_le_f, I_lt_t, I_lt_f, I_eq_t, I_eq_f, I_inb', I_ix', Int.toNat_natCast, decide_true, decide_false, Bool.not_false, Bool.not_true, if_true, if_false, wi_eq, wi_eq', wi_ne, wi_row, wi_2, N0, N1, N2, N3, N4, N5, N6, N7, N8, N9, N10, N11, N12, N13, N14, N15, N16, N17, N18, N19, N20, N21, N22, N23, N24, N25, N26, N27, N28, N29, N30, N31, N32, N33, N34, N35, N36, N37, N38, N39, N40, N41, N42, N43, N45, N48, N57, N59, N88, N89, N97, N99, N120, N121, N122, N179, N200, N255, N300, N400, N880, N900, N999, N1019, N50000000, N100000000, N1000000000, N2147483647, N2147483648]
      rw [h1]
  have en : f_X7_nextSign (I b) (wi τ 102 31 (I (nx : Int))) = some (0, wi (wi (wi (wi τ 102 31 (I (nx : Int))) 102 30 (I 4)) 102 32 (I b)) 102 29 (I ((nx : Int) + 1))) := by
    unfold f_X7_nextSign f_X7_nextSign_12 f_X7_nextSign_17 f_X7_nextSign_28 f_X7_nextSign_50
    rcases hk with ⟨h1, h2⟩ | ⟨h1, h2⟩
    · simp (disch := omega) only [gd_t, bd_s, nm_W, nm_I, I_add, I_sub, I_mul, I_neg, I_le_t, I_le_f, I_lt_t, I_lt_f, I_eq_t, I_eq_f, I_inb', I_ix', Int.toNat_natCast, decide_true, decide_false, Bool.not_false, Bool.not_true, if_true, if_false, wi_eq, wi_eq', wi_ne, wi_row, wi_2, N0, N1, N2, N3, N4, N5, N6, N7, N8, N9, N10, N11, N12, N13, N14, N15, N16, N17, N18, N19, N20, N21, N22, N23, N24, N25, N26, N27, N28, N29, N30, N31, N32, N33, N34, N35, N36, N37, N38, N39, N40, N41, N42, N43, N45, N48, N57, N59, N88, N89, N97, N99, N120, N121, N122, N179, N200, N255, N300, N400, N880, N900, N999, N1019, N50000000, N100000000, N1000000000, N2147483647, N2147483648, e29]
    · simp (disch := omega) only [gd_t, bd_s, nm_W, nm_I, I_add, I_sub, I_mul, I_neg, I_le_t, I_le_f, I_lt_t, I_lt_f, I_eq_t, I_eq_f, I_inb', I_ix', Int.toNat_natCast, decide_true, decide_false, Bool.not_false, Bool.not_true, if_true, if_false, wi_eq, wi_eq', wi_ne, wi_row, wi_2, N0, N1, N2, N3, N4, N5, N6, N7, N8, N9, N10, N11, N12, N13, N14, N15, N16, N17, N18, N19, N20, N21, N22, N23, N24, N25, N26, N27, N28, N29, N30, N31, N32, N33, N34, N35, N36, N37, N38, N39, N40, N41, N42, N43, N45, N48, N57, N59, N88, N89, N97, N99, N120, N121, N122, N179, N200, N255, N300, N400, N880, N900, N999, N1019, N50000000, N100000000, N1000000000, N2147483647, N2147483648, e29]
  refine ⟨wi (wi (wi (wi σ 1 8 (I (nx : Int))) 1 9 (I 0)) 1 7 (I k)) 1 6 (I ((nx : Int) + 1)), wi (wi (wi (wi τ 102 31 (I (nx : Int))) 102 30 (I 4)) 102 32 (I b)) 102 29 (I ((nx : Int) + 1)), k, [], 0, ?_, ?_, ⟨nx + 1, ⟨by omega, by omega, fun q => by omega⟩, ⟨?_, ?_, ?_, ?_, ?_⟩, ⟨?_, ?_, ?_, fun _ => ?_⟩, ?_⟩, CFt CFw (CFt CFw (CFt CFw CFw)), RXt (RXw (by omega)) (RXt (RXw (by omega)) (RXt (RXw (by omega)) (RXw (by omega))))⟩
  · unfold f_X5_step_38 f_X5_step_79 f_X5_step_140
    simp (disch := omega) only [gd_t, bd_s, nm_W, nm_I, I_add, I_sub, I_mul, I_neg, I_le_t, I_le_f, I_lt_t, I_lt_f, I_eq_t, I_eq_f, I_inb', I_ix', Int.toNat_natCast, decide_true, decide_false, Bool.not_false, Bool.not_true, if_true, if_false, wi_eq, wi_eq', wi_ne, wi_row, wi_2, N0, N1, N2, N3, N4, N5, N6, N7, N8, N9, N10, N11, N12, N13, N14, N15, N16, N17, N18, N19, N20, N21, N22, N23, N24, N25, N26, N27, N28, N29, N30, N31, N32, N33, N34, N35, N36, N37, N38, N39, N40, N41, N42, N43, N45, N48, N57, N59, N88, N89, N97, N99, N120, N121, N122, N179, N200, N255, N300, N400, N880, N900, N999, N1019, N50000000, N100000000, N1000000000, N2147483647, N2147483648, c5, c6, b1, es]
  · rw [nxt_1 e29 eb (by omega), i1, bd_s, if_pos (show I 0 = (0 : Int32) from rfl), i2, bd_s, if_pos (show I 0 = (0 : Int32) from rfl), en, bd_s]
    rfl
  · simp (disch := omega) only [wi_eq, wi_eq', wi_ne, wi_row, wi_2]; exact c5
  · simp (disch := omega) only [wi_eq, wi_eq', wi_ne, wi_row, wi_2]; rfl
  · simp (disch := omega) only [wi_eq, wi_eq', wi_ne, wi_row, wi_2]
  · simp (disch := omega) only [wi_eq, wi_eq', wi_ne, wi_row, wi_2]
  · simp (disch := omega) only [wi_eq, wi_eq', wi_ne, wi_row, wi_2]; exact c1
  · simp (disch := omega) only [wi_eq, wi_eq', wi_ne, wi_row, wi_2]; exact e28
  · simp (disch := omega) only [wi_eq, wi_eq', wi_ne, wi_row, wi_2]
  · simp (disch := omega) only [wi_eq, wi_eq', wi_ne, wi_row, wi_2]; exact e33
  · simp (disch := omega) only [wi_eq, wi_eq', wi_ne, wi_row, wi_2]; rfl
  · rcases hk with ⟨h1, h2⟩ | ⟨h1, h2⟩
    · exact Or.inr (Or.inr (Or.inr (Or.inl ⟨h1, by simp (disch := omega) only [wi_eq, wi_eq', wi_ne, wi_row, wi_2], by simp (disch := omega) only [wi_eq, wi_eq', wi_ne, wi_row, wi_2]; rw [h2]⟩)))
    · exact Or.inr (Or.inr (Or.inr (Or.inr (Or.inl ⟨h1, by simp (disch := omega) only [wi_eq, wi_eq', wi_ne, wi_row, wi_2], by simp (disch := omega) only [wi_eq, wi_eq', wi_ne, wi_row, wi_2]; rw [h2]⟩))))
theorem tok_bad {N nx : Nat} {bt : Nat → Int} {σ τ : Wd} (hB : BY σ τ N bt) (hS : ST σ τ N nx) (h : nx < N) (hb : ¬ (97 ≤ bt nx ∧ bt nx ≤ 122) ∧ ¬ (48 ≤ bt nx ∧ bt nx ≤ 57) ∧ bt nx ≠ 59 ∧ bt nx ≠ 45) : ∃ (σ' τ' : Wd) (k : Int) (l : List Int) (n : Int), f_X5_step_38 σ = some (0, σ') ∧ nxt τ = some (0, τ') ∧ TK σ' τ' N bt nx k l n ∧ CF σ σ' ∧ RX τ τ' := by
  obtain ⟨⟨c5, c6, c1⟩, e28, e29, e33, hn⟩ := hS
  have hN := hB.1
  obtain ⟨b1, b2, b3, b4⟩ := hB.2 nx h
  obtain ⟨b, hbb⟩ : ∃ b, b = bt nx := ⟨_, rfl⟩
  rw [← hbb] at b1 b2 b3 b4 hb
  have eb := rByte (τ := wi τ 102 31 (I (nx : Int))) hN (by rw [wi_ne (by decide)]; exact e28) h (by rw [wi_row (by decide)]; exact b2) b3 b4
  obtain ⟨c, hc⟩ : ∃ c, c = b % 256 := ⟨_, rfl⟩
  rw [← hc] at eb
  have cb : 0 ≤ c ∧ c ≤ 255 ∧ ¬ (97 ≤ c ∧ c ≤ 122) ∧ ¬ (48 ≤ c ∧ c ≤ 57) ∧ c ≠ 59 ∧ c ≠ 45 := by omega
  have i1 := rIn0 (σ := wi τ 102 31 (I (nx : Int))) (z := c) (lo := 97) (hi := 122) (by unfold R; omega) (by unfold R; omega) (by unfold R; omega) (by omega)
  have i2 := rIn0 (σ := wi τ 102 31 (I (nx : Int))) (z := c) (lo := 48) (hi := 57) (by unfold R; omega) (by unfold R; omega) (by unfold R; omega) (by omega)
  have es : f_X5_sortOf (I b) (wi (wi σ 1 8 (I (nx : Int))) 1 9 (I 0)) = some (I 5, wi (wi σ 1 8 (I (nx : Int))) 1 9 (I 0)) := by
    unfold f_X5_sortOf f_X5_sortOf_14 f_X5_sortOf_28 f_X5_sortOf_49
    rcases (show b < 48 ∨ (57 < b ∧ b < 97) ∨ 122 < b by omega) with h1 | h1 | h1
    · simp (disch := omega) only [gd_t, bd_s, nm_W, nm_I, I_add, I_sub, I_mul, I_neg, I_le_t, I_le_f, I_lt_t, I_lt_f, I_eq_t, I_eq_f, I_inb', I_ix', Int.toNat_natCast, decide_true, decide_false, Bool.not_false, Bool.not_true, if_true, if_false, wi_eq, wi_eq', wi_ne, wi_row, wi_2, N0, N1, N2, N3, N4, N5, N6, N7, N8, N9, N10, N11, N12, N13, N14, N15, N16, N17, N18, N19, N20, N21, N22, N23, N24, N25, N26, N27, N28, N29, N30, N31, N32, N33, N34, N35, N36, N37, N38, N39, N40, N41, N42, N43, N45, N48, N57, N59, N88, N89, N97, N99, N120, N121, N122, N179, N200, N255, N300, N400, N880, N900, N999, N1019, N50000000, N100000000, N1000000000, N2147483647, N2147483648]
    · simp (disch := omega) only [gd_t, bd_s, nm_W, nm_I, I_add, I_sub, I_mul, I_neg, I_le_t, I_le_f, I_lt_t, I_lt_f, I_eq_t, I_eq_f, I_inb', I_ix', Int.toNat_natCast, decide_true, decide_false, Bool.not_false, Bool.not_true, if_true, if_false, wi_eq, wi_eq', wi_ne, wi_row, wi_2, N0, N1, N2, N3, N4, N5, N6, N7, N8, N9, N10, N11, N12, N13, N14, N15, N16, N17, N18, N19, N20, N21, N22, N23, N24, N25, N26, N27, N28, N29, N30, N31, N32, N33, N34, N35, N36, N37, N38, N39, N40, N41, N42, N43, N45, N48, N57, N59, N88, N89, N97, N99, N120, N121, N122, N179, N200, N255, N300, N400, N880, N900, N999, N1019, N50000000, N100000000, N1000000000, N2147483647, N2147483648]
    · simp (disch := omega) only [gd_t, bd_s, nm_W, nm_I, I_add, I_sub, I_mul, I_neg, I_le_t, I_le_f, I_lt_t, I_lt_f, I_eq_t, I_eq_f, I_inb', I_ix', Int.toNat_natCast, decide_true, decide_false, Bool.not_false, Bool.not_true, if_true, if_false, wi_eq, wi_eq', wi_ne, wi_row, wi_2, N0, N1, N2, N3, N4, N5, N6, N7, N8, N9, N10, N11, N12, N13, N14, N15, N16, N17, N18, N19, N20, N21, N22, N23, N24, N25, N26, N27, N28, N29, N30, N31, N32, N33, N34, N35, N36, N37, N38, N39, N40, N41, N42, N43, N45, N48, N57, N59, N88, N89, N97, N99, N120, N121, N122, N179, N200, N255, N300, N400, N880, N900, N999, N1019, N50000000, N100000000, N1000000000, N2147483647, N2147483648]
  have en : f_X7_nextSign (I c) (wi τ 102 31 (I (nx : Int))) = some (0, wi (wi (wi τ 102 31 (I (nx : Int))) 102 30 (I 0)) 102 32 (I c)) := by
    unfold f_X7_nextSign f_X7_nextSign_17 f_X7_nextSign_28 f_X7_nextSign_50
    simp (disch := omega) only [gd_t, bd_s, nm_W, nm_I, I_add, I_sub, I_mul, I_neg, I_le_t, I_le_f, I_lt_t, I_lt_f, I_eq_t, I_eq_f, I_inb', I_ix', Int.toNat_natCast, decide_true, decide_false, Bool.not_false, Bool.not_true, if_true, if_false, wi_eq, wi_eq', wi_ne, wi_row, wi_2, N0, N1, N2, N3, N4, N5, N6, N7, N8, N9, N10, N11, N12, N13, N14, N15, N16, N17, N18, N19, N20, N21, N22, N23, N24, N25, N26, N27, N28, N29, N30, N31, N32, N33, N34, N35, N36, N37, N38, N39, N40, N41, N42, N43, N45, N48, N57, N59, N88, N89, N97, N99, N120, N121, N122, N179, N200, N255, N300, N400, N880, N900, N999, N1019, N50000000, N100000000, N1000000000, N2147483647, N2147483648]
  refine ⟨wi (wi (wi (wi σ 1 8 (I (nx : Int))) 1 9 (I 0)) 1 7 (I 5)) 1 6 (I ((nx : Int) + 1)), wi (wi (wi τ 102 31 (I (nx : Int))) 102 30 (I 0)) 102 32 (I c), 5, [], 0, ?_, ?_, ⟨nx + 1, ⟨by omega, by omega, fun q => by omega⟩, ⟨?_, ?_, ?_, ?_, ?_⟩, ⟨?_, ?_, ?_, fun q => absurd rfl q⟩, Or.inr (Or.inr (Or.inr (Or.inr (Or.inr ⟨rfl, by simp (disch := omega) only [wi_eq, wi_eq', wi_ne, wi_row, wi_2]⟩))))⟩, CFt CFw (CFt CFw (CFt CFw CFw)), RXt (RXw (by omega)) (RXt (RXw (by omega)) (RXw (by omega)))⟩
  · unfold f_X5_step_38 f_X5_step_79 f_X5_step_140
    simp (disch := omega) only [gd_t, bd_s, nm_W, nm_I, I_add, I_sub, I_mul, I_neg, I_le_t, I_le_f, I_lt_t, I_lt_f, I_eq_t, I_eq_f, I_inb', I_ix', Int.toNat_natCast, decide_true, decide_false, Bool.not_false, Bool.not_true, if_true, if_false, wi_eq, wi_eq', wi_ne, wi_row, wi_2, N0, N1, N2, N3, N4, N5, N6, N7, N8, N9, N10, N11, N12, N13, N14, N15, N16, N17, N18, N19, N20, N21, N22, N23, N24, N25, N26, N27, N28, N29, N30, N31, N32, N33, N34, N35, N36, N37, N38, N39, N40, N41, N42, N43, N45, N48, N57, N59, N88, N89, N97, N99, N120, N121, N122, N179, N200, N255, N300, N400, N880, N900, N999, N1019, N50000000, N100000000, N1000000000, N2147483647, N2147483648, c5, c6, b1, es]
  · rw [nxt_1 e29 eb (by omega), i1, bd_s, if_pos (show I 0 = (0 : Int32) from rfl), i2, bd_s, if_pos (show I 0 = (0 : Int32) from rfl), en, bd_s]
    rfl
  · simp (disch := omega) only [wi_eq, wi_eq', wi_ne, wi_row, wi_2]; exact c5
  · simp (disch := omega) only [wi_eq, wi_eq', wi_ne, wi_row, wi_2]; rfl
  · simp (disch := omega) only [wi_eq, wi_eq', wi_ne, wi_row, wi_2]
  · simp (disch := omega) only [wi_eq, wi_eq', wi_ne, wi_row, wi_2]
  · simp (disch := omega) only [wi_eq, wi_eq', wi_ne, wi_row, wi_2]; exact c1
  · simp (disch := omega) only [wi_eq, wi_eq', wi_ne, wi_row, wi_2]; exact e28
  · simp (disch := omega) only [wi_eq, wi_eq', wi_ne, wi_row, wi_2]
  · simp (disch := omega) only [wi_eq, wi_eq', wi_ne, wi_row, wi_2]; exact e33
