section
/-! PURE: the text: words as lists of letters (the last first), as class and reference number them -/
def rl (f : Nat → Int) : Nat → List Int
  | 0 => []
  | n + 1 => f n :: rl f n
def w27 : List Int → Int
  | [] => 0
  | c :: l => w27 l * 27 + (c - 96)
def w64 : List Int → Int64
  | [] => 0
  | c :: l => (w64 l <<< (8 : Int64)) ||| (I c).toInt64
def n8 : List Int → Nat
  | [] => 0
  | c :: l => n8 l * 256 + c.toNat
def ltr (l : List Int) : Prop := ∀ c, c ∈ l → 97 ≤ c ∧ c ≤ 122
theorem rl_len (f : Nat → Int) : ∀ n, (rl f n).length = n
  | 0 => rfl
  | n + 1 => by
    show (rl f n).length + 1 = n + 1
    rw [rl_len f n]
theorem rl_ext {f g : Nat → Int} : ∀ n, (∀ i, i < n → f i = g i) → rl f n = rl g n
  | 0, _ => rfl
  | n + 1, h => by
    show f n :: rl f n = g n :: rl g n
    rw [h n (by omega), rl_ext n (fun i hi => h i (by omega))]
theorem rl_inj {f g : Nat → Int} : ∀ n, rl f n = rl g n → ∀ i, i < n → f i = g i
  | 0, _, i, hi => absurd hi (by omega)
  | n + 1, h, i, hi => by
    have h : f n :: rl f n = g n :: rl g n := h
    obtain ⟨h1, h2⟩ := List.cons.inj h
    by_cases c : i = n
    · rw [c]; exact h1
    · exact rl_inj n h2 i (by omega)
theorem rl_ltr {f : Nat → Int} : ∀ n, (∀ i, i < n → 97 ≤ f i ∧ f i ≤ 122) → ltr (rl f n)
  | 0, _ => fun c hc => by cases hc
  | n + 1, h => fun c hc => by
    rcases List.mem_cons.mp hc with e | e
    · rw [e]; exact h n (by omega)
    · exact rl_ltr n (fun i hi => h i (by omega)) c e
theorem ltr_tl {c : Int} {l : List Int} (h : ltr (c :: l)) : (97 ≤ c ∧ c ≤ 122) ∧ ltr l := ⟨h c (List.mem_cons.mpr (Or.inl rfl)), fun x hx => h x (List.mem_cons.mpr (Or.inr hx))⟩
theorem w27_b : ∀ (l : List Int), ltr l → 0 ≤ w27 l ∧ w27 l < 27 ^ l.length
  | [], _ => by decide
  | c :: l, h => by
    obtain ⟨h1, h2⟩ := ltr_tl h
    obtain ⟨a, b⟩ := w27_b l h2
    show 0 ≤ w27 l * 27 + (c - 96) ∧ w27 l * 27 + (c - 96) < 27 ^ (l.length + 1)
    rw [Int.pow_succ]
    generalize (27 : Int) ^ l.length = P at *
    omega
theorem w27_6 {l : List Int} (h : ltr l) (hl : l.length ≤ 6) : 0 ≤ w27 l ∧ w27 l ≤ 387420488 := by
  obtain ⟨a, b⟩ := w27_b l h
  have p0 : (27 : Int) ^ 0 = 1 := by decide
  have p1 : (27 : Int) ^ 1 = 27 := by decide
  have p2 : (27 : Int) ^ 2 = 729 := by decide
  have p3 : (27 : Int) ^ 3 = 19683 := by decide
  have p4 : (27 : Int) ^ 4 = 531441 := by decide
  have p5 : (27 : Int) ^ 5 = 14348907 := by decide
  have p6 : (27 : Int) ^ 6 = 387420489 := by decide
  rcases (show l.length = 0 ∨ l.length = 1 ∨ l.length = 2 ∨ l.length = 3 ∨ l.length = 4 ∨ l.length = 5 ∨ l.length = 6 by omega) with e | e | e | e | e | e | e
  · rw [e, p0] at b; omega
  · rw [e, p1] at b; omega
  · rw [e, p2] at b; omega
  · rw [e, p3] at b; omega
  · rw [e, p4] at b; omega
  · rw [e, p5] at b; omega
  · rw [e, p6] at b; omega
theorem w27_inj : ∀ (l k : List Int), ltr l → ltr k → w27 l = w27 k → l = k
  | [], [], _, _, _ => rfl
  | [], c :: k, _, hk, h => by
    obtain ⟨h1, h2⟩ := ltr_tl hk
    have a := (w27_b k h2).1
    have h : (0 : Int) = w27 k * 27 + (c - 96) := h
    omega
  | c :: l, [], hl, _, h => by
    obtain ⟨h1, h2⟩ := ltr_tl hl
    have a := (w27_b l h2).1
    have h : w27 l * 27 + (c - 96) = 0 := h
    omega
  | c :: l, e :: k, hl, hk, h => by
    obtain ⟨h1, h2⟩ := ltr_tl hl
    obtain ⟨h3, h4⟩ := ltr_tl hk
    have h : w27 l * 27 + (c - 96) = w27 k * 27 + (e - 96) := h
    rw [w27_inj l k h2 h4 (by omega), show c = e by omega]
theorem n8_inj : ∀ (l k : List Int), ltr l → ltr k → n8 l = n8 k → l = k
  | [], [], _, _, _ => rfl
  | [], c :: k, _, hk, h => by
    obtain ⟨h1, h2⟩ := ltr_tl hk
    have h : 0 = n8 k * 256 + c.toNat := h
    omega
  | c :: l, [], hl, _, h => by
    obtain ⟨h1, h2⟩ := ltr_tl hl
    have h : n8 l * 256 + c.toNat = 0 := h
    omega
  | c :: l, e :: k, hl, hk, h => by
    obtain ⟨h1, h2⟩ := ltr_tl hl
    obtain ⟨h3, h4⟩ := ltr_tl hk
    have h : n8 l * 256 + c.toNat = n8 k * 256 + e.toNat := h
    rw [n8_inj l k h2 h4 (by omega), show c = e by omega]
theorem n8_b : ∀ (l : List Int), ltr l → n8 l < 256 ^ l.length
  | [], _ => by decide
  | c :: l, h => by
    obtain ⟨h1, h2⟩ := ltr_tl h
    have b := n8_b l h2
    show n8 l * 256 + c.toNat < 256 ^ (l.length + 1)
    rw [Nat.pow_succ]
    generalize 256 ^ l.length = P at *
    omega
theorem n8_5 {l : List Int} (h : ltr l) (hl : l.length ≤ 5) : n8 l < 1099511627776 := by
  have b := n8_b l h
  have q : 256 ^ l.length ≤ 256 ^ 5 := Nat.pow_le_pow_right (by decide) hl
  have p5 : 256 ^ 5 = 1099511627776 := by decide
  omega
theorem c64 : ∀ n : Fin 256, (I ((n.val : Nat) : Int)).toInt64.toBitVec.toNat = n.val := by decide +kernel
theorem w64_n : ∀ (l : List Int), ltr l → l.length ≤ 6 → (w64 l).toBitVec.toNat = n8 l
  | [], _, _ => rfl
  | c :: l, h, hl => by
    obtain ⟨h1, h2⟩ := ltr_tl h
    have hl' : l.length + 1 ≤ 6 := hl
    have ih := w64_n l h2 (by omega)
    have b := n8_5 h2 (by omega)
    have e := c64 ⟨c.toNat, by omega⟩
    have ec : ((c.toNat : Nat) : Int) = c := by omega
    have e : (I c).toInt64.toBitVec.toNat = c.toNat := by rw [← ec]; exact e
    show ((w64 l <<< (8 : Int64)).toBitVec ||| (I c).toInt64.toBitVec).toNat = n8 l * 256 + c.toNat
    have es : (w64 l <<< (8 : Int64)).toBitVec = (w64 l).toBitVec <<< 8 := rfl
    rw [BitVec.toNat_or, e, es, BitVec.toNat_shiftLeft, ih, Nat.mod_eq_of_lt (by rw [Nat.shiftLeft_eq]; omega), ← Nat.shiftLeft_add_eq_or_of_lt (by omega), Nat.shiftLeft_eq]
theorem w64_inj {l k : List Int} (hl : ltr l) (hk : ltr k) (l6 : l.length ≤ 6) (k6 : k.length ≤ 6) (h : w64 l = w64 k) : l = k := by
  refine n8_inj l k hl hk ?_
  rw [← w64_n l hl l6, ← w64_n k hk k6, h]
theorem lg_0 (x y : Int64) : (lg_cmp x y = I 0) = (x = y) := by
  unfold lg_cmp
  by_cases c : x > y
  · rw [if_pos c]
    refine propext ⟨fun h => absurd h (by decide), fun h => ?_⟩
    rw [h] at c
    exact absurd c (by rw [gt_iff_lt]; exact Int64.lt_irrefl)
  · rw [if_neg c]
    by_cases e : x = y
    · rw [if_pos e]; exact propext ⟨fun _ => e, fun _ => rfl⟩
    · rw [if_neg e]; exact propext ⟨fun h => absurd h (by decide), fun h => absurd h e⟩
end
section
/-! PURE: the text: blanks, signs, words, numbers, in step -/
theorem wl_1 {σ : Wd} {k j : Nat} {x : Int64} : (wl σ k j x).1 = σ.1 := rfl
theorem wl_eq {σ : Wd} {k j : Nat} {x : Int64} : (wl σ k j x).2.1 k j = x := by
  show (if k = k then vp_updL (σ.2.1 k) j x else σ.2.1 k) j = x
  rw [if_pos rfl]
  exact if_pos rfl
theorem wl_ne {σ : Wd} {k j i : Nat} {x : Int64} (h : i ≠ j) : (wl σ k j x).2.1 k i = σ.2.1 k i := by
  show (if k = k then vp_updL (σ.2.1 k) j x else σ.2.1 k) i = σ.2.1 k i
  rw [if_pos rfl]
  exact if_neg h
theorem wl_row {σ : Wd} {k j a : Nat} {x : Int64} (h : a ≠ k) : (wl σ k j x).2.1 a = σ.2.1 a := if_neg h
theorem wl_22 {σ : Wd} {k j : Nat} {x : Int64} : (wl σ k j x).2.2 = σ.2.2 := rfl
def BY (σ τ : Wd) (N : Nat) (bt : Nat → Int) : Prop := N ≤ 900 ∧ ∀ i, i < N → σ.1 2 i = I (bt i) ∧ τ.1 115 i = I (bt i) ∧ -128 ≤ bt i ∧ bt i ≤ 127
/-- what a step leaves alone in the class -/
def CF (σ σ' : Wd) : Prop := (∀ k, k ≠ 1 → σ'.1 k = σ.1 k) ∧ σ'.1 1 10 = σ.1 1 10 ∧ σ'.2 = σ.2
/-- what a reader leaves alone there -/
def CG (σ σ' : Wd) : Prop := (∀ k, k ≠ 1 → σ'.1 k = σ.1 k) ∧ σ'.2 = σ.2
def RX (τ τ' : Wd) : Prop := (∀ k, k ≠ 102 → τ'.1 k = τ.1 k) ∧ (∀ i, i < 29 ∨ 33 < i → τ'.1 102 i = τ.1 102 i) ∧ (∀ k, k ≠ 102 → τ'.2.1 k = τ.2.1 k) ∧ τ'.2.2 = τ.2.2
theorem CFr {σ : Wd} : CF σ σ := ⟨fun _ _ => rfl, rfl, rfl⟩
theorem CGr {σ : Wd} : CG σ σ := ⟨fun _ _ => rfl, rfl⟩
theorem CFG {σ σ' : Wd} (h : CF σ σ') : CG σ σ' := ⟨h.1, h.2.2⟩
theorem CGt {a b c : Wd} (h : CG a b) (g : CG b c) : CG a c := ⟨fun k hk => by rw [g.1 k hk, h.1 k hk], by rw [g.2, h.2]⟩
theorem CGw {σ : Wd} {j : Nat} {x : Int32} : CG σ (wi σ 1 j x) := ⟨fun k hk => wi_row hk, rfl⟩
theorem RXr {τ : Wd} : RX τ τ := ⟨fun _ _ => rfl, fun _ _ => rfl, fun _ _ => rfl, rfl⟩
theorem CFt {a b c : Wd} (h : CF a b) (g : CF b c) : CF a c := ⟨fun k hk => by rw [g.1 k hk, h.1 k hk], by rw [g.2.1, h.2.1], by rw [g.2.2, h.2.2]⟩
theorem RXt {a b c : Wd} (h : RX a b) (g : RX b c) : RX a c := ⟨fun k hk => by rw [g.1 k hk, h.1 k hk], fun i hi => by rw [g.2.1 i hi, h.2.1 i hi], fun k hk => by rw [g.2.2.1 k hk, h.2.2.1 k hk], by rw [g.2.2.2, h.2.2.2]⟩
theorem CFw {σ : Wd} {j : Nat} {x : Int32} (h : j ≠ 10 := by decide) : CF σ (wi σ 1 j x) := ⟨fun k hk => wi_row hk, wi_ne (Ne.symm h), rfl⟩
theorem RXw {τ : Wd} {j : Nat} {x : Int32} (h : 29 ≤ j ∧ j ≤ 33) : RX τ (wi τ 102 j x) := ⟨fun k hk => wi_row hk, fun i hi => wi_ne (by omega), fun _ _ => rfl, rfl⟩
theorem RXl {τ : Wd} {x : Int64} : RX τ (wl τ 102 34 x) := ⟨fun k hk => rfl, fun i hi => rfl, fun k hk => wl_row hk, rfl⟩
theorem BY_f {σ τ σ' τ' : Wd} {N : Nat} {bt : Nat → Int} (h : BY σ τ N bt) (c : CG σ σ') (r : RX τ τ') : BY σ' τ' N bt := by
  unfold BY at h ⊢
  rw [c.1 2 (by decide), r.1 115 (by decide)]
  exact h
def ST (σ τ : Wd) (N nx : Nat) : Prop := (σ.1 1 5 = I (N : Int) ∧ σ.1 1 6 = I (nx : Int) ∧ σ.1 1 1 = I 0) ∧ τ.1 102 28 = I (N : Int) ∧ τ.1 102 29 = I (nx : Int) ∧ τ.1 102 33 = I 0 ∧ nx ≤ N
theorem and255 {b : Int} (h1 : -128 ≤ b) (h2 : b ≤ 127) : I b &&& I 255 = I (b % 256) := by
  have key : ∀ n : Fin 256, I ((n.val : Int) - 128) &&& I 255 = I (((n.val : Int) - 128) % 256) := by decide +kernel
  have := key ⟨(b + 128).toNat, by omega⟩
  rw [show (((⟨(b + 128).toNat, by omega⟩ : Fin 256).val : Nat) : Int) - 128 = b by show (((b + 128).toNat : Nat) : Int) - 128 = b; omega] at this
  exact this
theorem rByte {τ : Wd} {N i : Nat} {b : Int} (hN : N ≤ 900) (h28 : τ.1 102 28 = I (N : Int)) (hi : i < N) (hb : τ.1 115 i = I b) (b1 : -128 ≤ b) (b2 : b ≤ 127) : f_X7_byteAt (I (i : Int)) τ = some (I (b % 256), τ) := by
  unfold f_X7_byteAt f_X7_byteAt_22
  simp (disch := omega) only [↓reduceIte, gd_t, bd_s, nm_W, nm_I, I_add, I_sub, I_mul, I_neg, I_le_t, I_le_f, I_lt_t, I_lt_f, I_eq_t, I_eq_f, I_inb', I_ix', Int.toNat_natCast, decide_true, decide_false, Bool.not_false, Bool.not_true, if_true, if_false, wi_eq, wi_eq', wi_ne, wi_row, wi_2, N0, N1, N2, N3, N4, N5, N6, N7, N8, N9, N10, N11, N12, N13, N14, N15, N16, N17, N18, N19, N20, N21, N22, N23, N24, N25, N26, N27, N28, N29, N30, N31, N32, N33, N34, N35, N36, N37, N38, N39, N40, N41, N42, N43, N45, N48, N57, N59, N88, N89, N97, N99, N120, N121, N122, N179, N200, N255, N300, N400, N880, N900, N999, N1019, N50000000, N100000000, N1000000000, N2147483647, N2147483648, h28, hb, and255]
theorem rByteE {τ : Wd} {N : Nat} (hN : N ≤ 900) (h28 : τ.1 102 28 = I (N : Int)) : f_X7_byteAt (I (N : Int)) τ = some (I (-1), τ) := by
  unfold f_X7_byteAt f_X7_byteAt_22
  simp (disch := omega) only [↓reduceIte, gd_t, bd_s, nm_W, nm_I, I_add, I_sub, I_mul, I_neg, I_le_t, I_le_f, I_lt_t, I_lt_f, I_eq_t, I_eq_f, I_inb', I_ix', Int.toNat_natCast, decide_true, decide_false, Bool.not_false, Bool.not_true, if_true, if_false, wi_eq, wi_eq', wi_ne, wi_row, wi_2, N0, N1, N2, N3, N4, N5, N6, N7, N8, N9, N10, N11, N12, N13, N14, N15, N16, N17, N18, N19, N20, N21, N22, N23, N24, N25, N26, N27, N28, N29, N30, N31, N32, N33, N34, N35, N36, N37, N38, N39, N40, N41, N42, N43, N45, N48, N57, N59, N88, N89, N97, N99, N120, N121, N122, N179, N200, N255, N300, N400, N880, N900, N999, N1019, N50000000, N100000000, N1000000000, N2147483647, N2147483648, h28]
def nxt (σ2 : Wd) : Option (Int32 × Wd) := nmW (wi σ2 102 31 (σ2.1 102 29)) fun σ4 => bd (f_X7_byteAt (σ4.1 102 29) σ4) fun r5 σ6 => if r5 = (-1 : Int32) then (nmW (wi σ6 102 30 (1 : Int32)) fun σ7 => (f_X7_next_105 σ7)) else (bd (f_X7_in r5 (97 : Int32) (122 : Int32) σ6) fun r8 σ9 => if r8 = 0 then (bd (f_X7_in r5 (48 : Int32) (57 : Int32) σ9) fun r10 σ11 => if r10 = 0 then (bd (f_X7_nextSign r5 σ11) fun _ σ12 => (f_X7_next_105 σ12)) else (bd (f_X7_nextWhole σ11) fun _ σ13 => (f_X7_next_105 σ13))) else (bd (f_X7_nextWord σ9) fun _ σ14 => (f_X7_next_105 σ14)))
theorem skip_ok {N : Nat} {bt : Nat → Int} : ∀ (r nx n : Nat) (σ τ : Wd), nx + r = N → r < n → BY σ τ N bt → ST σ τ N nx →
    ∃ (σ' τ' : Wd) (nx' : Nat), nx ≤ nx' ∧ (nx' < N → bt nx' ≠ 32) ∧ ST σ' τ' N nx' ∧ f_X5_step_0 n σ = f_X5_step_38 σ' ∧ f_X7_next_8 n τ = nxt τ' ∧ CF σ σ' ∧ RX τ τ'
  | 0, nx, n + 1, σ, τ, hr, _, hB, hS => by
    obtain ⟨⟨c5, c6, c1⟩, e28, e29, e33, hn⟩ := hS
    have hN := hB.1
    have en : nx = N := by omega
    subst en
    refine ⟨σ, τ, nx, Nat.le_refl _, fun h => absurd h (by omega), ⟨⟨c5, c6, c1⟩, e28, e29, e33, hn⟩, ?_, ?_, CFr, RXr⟩
    · rw [f_X5_step_0]
      dsimp only
      rw [if_pos (by rw [c5, c6]; exact Int32.le_refl _)]
    · rw [f_X7_next_8]
      dsimp only
      rw [e29, rByteE hN e28, bd_s, if_neg (by decide)]
      unfold nxt
      rw [e29]
  | r + 1, nx, n + 1, σ, τ, hr, hn1, hB, hS => by
    have hS0 := hS
    obtain ⟨⟨c5, c6, c1⟩, e28, e29, e33, hn⟩ := hS
    have hN := hB.1
    obtain ⟨b1, b2, b3, b4⟩ := hB.2 nx (by omega)
    have eb := rByte hN e28 (show nx < N by omega) b2 b3 b4
    have nle : ¬ σ.1 1 5 ≤ σ.1 1 6 := by rw [c5, c6, I_le (by unfold R; omega) (by unfold R; omega)]; omega
    have g1 : inb (σ.1 1 6) 900 = true := by rw [c6]; exact inI (by omega) (by decide)
    have g2 : ix (σ.1 1 6) = nx := by rw [c6]; exact ixI (by omega)
    by_cases c : bt nx = 32
    · obtain ⟨σ', τ', nx', q1, q2, q3, q4, q5, q6, q7⟩ := skip_ok r (nx + 1) n (wi σ 1 6 (σ.1 1 6 + 1)) (wi τ 102 29 (τ.1 102 29 + 1)) (by omega) (by omega) (BY_f hB CGw (RXw (by omega))) ⟨⟨by rw [wi_ne (by decide)]; exact c5, by rw [wi_eq, c6]; show I _ + I 1 = _; rw [I_add]; rfl, by rw [wi_ne (by decide)]; exact c1⟩, by rw [wi_ne (by decide)]; exact e28, by rw [wi_eq, e29]; show I _ + I 1 = _; rw [I_add]; rfl, by rw [wi_ne (by decide)]; exact e33, by omega⟩
      refine ⟨σ', τ', nx', by omega, q2, q3, ?_, ?_, CFt CFw q6, RXt (RXw (by omega)) q7⟩
      · rw [← q4, f_X5_step_0]
        dsimp only
        rw [if_neg nle, g1, gd_t, g2, b1, c, if_pos (show I 32 = (32 : Int32) from rfl), nm_W]
      · rw [← q5, f_X7_next_8]
        dsimp only
        rw [e29, eb, bd_s, c, if_pos (by decide), nm_W, e29]
    · refine ⟨σ, τ, nx, Nat.le_refl _, fun _ => c, hS0, ?_, ?_, CFr, RXr⟩
      · rw [f_X5_step_0]
        dsimp only
        rw [if_neg nle, g1, gd_t, g2, b1, if_neg (show ¬ I (bt nx) = (32 : Int32) by show ¬ I (bt nx) = I 32; rw [I_eq (by unfold R; omega) (by unfold R; omega)]; exact c)]
      · rw [f_X7_next_8]
        dsimp only
        rw [e29, eb, bd_s, if_neg (show ¬ I (bt nx % 256) = (32 : Int32) by show ¬ I (bt nx % 256) = I 32; rw [I_eq (by unfold R; omega) (by unfold R; omega)]; omega)]
        unfold nxt
        rw [e29]
/-- what stands where a token is read: its place pl, its sort k, a word's letters l, a number n -/
def TK (σ τ : Wd) (N : Nat) (bt : Nat → Int) (pl : Nat) (k : Int) (l : List Int) (n : Int) : Prop :=
  ∃ nx : Nat, (pl ≤ nx ∧ nx ≤ N ∧ (k = 3 → pl + 1 ≤ nx)) ∧ (σ.1 1 5 = I (N : Int) ∧ σ.1 1 6 = I (nx : Int) ∧ σ.1 1 7 = I k ∧ σ.1 1 8 = I (pl : Int) ∧ σ.1 1 1 = I 0) ∧ (τ.1 102 28 = I (N : Int) ∧ τ.1 102 31 = I (pl : Int) ∧ τ.1 102 33 = I 0 ∧ (k ≠ 5 → τ.1 102 29 = I (nx : Int)))
  ∧ ((k = 0 ∧ τ.1 102 30 = I 1) ∨ (k = 1 ∧ τ.1 102 30 = I 2 ∧ l = rl (fun i => bt (pl + i)) (nx - pl) ∧ nx - pl ≤ 6 ∧ ltr l ∧ σ.1 1 9 = I (w27 l) ∧ τ.2.1 102 34 = w64 l) ∨ (k = 2 ∧ τ.1 102 30 = I 3 ∧ 0 ≤ n ∧ n ≤ 999 ∧ σ.1 1 9 = I n ∧ τ.1 102 32 = I n)
    ∨ (k = 3 ∧ τ.1 102 30 = I 4 ∧ τ.1 102 32 = I 59) ∨ (k = 4 ∧ τ.1 102 30 = I 4 ∧ τ.1 102 32 = I 45) ∨ (k = 5 ∧ τ.1 102 30 = I 0))
theorem tok_fin {N nx : Nat} {bt : Nat → Int} {σ τ : Wd} (hB : BY σ τ N bt) (hS : ST σ τ N nx) (h : nx = N) : ∃ (σ' τ' : Wd) (k : Int) (l : List Int) (n : Int), f_X5_step_38 σ = some (0, σ') ∧ nxt τ = some (0, τ') ∧ TK σ' τ' N bt nx k l n ∧ CF σ σ' ∧ RX τ τ' := by
  subst h
  obtain ⟨⟨c5, c6, c1⟩, e28, e29, e33, hn⟩ := hS
  have hN := hB.1
  have eb := rByteE (τ := wi τ 102 31 (I (nx : Int))) hN (by rw [wi_ne (by decide)]; exact e28)
  refine ⟨wi (wi (wi σ 1 8 (I (nx : Int))) 1 9 (I 0)) 1 7 (I 0), wi (wi τ 102 31 (I (nx : Int))) 102 30 (I 1), 0, [], 0, ?_, ?_, ⟨nx, ⟨Nat.le_refl _, Nat.le_refl _, fun q => by omega⟩, ⟨?_, ?_, ?_, ?_, ?_⟩, ⟨?_, ?_, ?_, fun _ => ?_⟩, Or.inl ⟨rfl, wi_eq⟩⟩, CFt CFw (CFt CFw CFw), RXt (RXw (by omega)) (RXw (by omega))⟩
  · unfold f_X5_step_38 f_X5_step_79 f_X5_step_140
    simp (disch := omega) only [↓reduceIte, gd_t, bd_s, nm_W, nm_I, I_add, I_sub, I_mul, I_neg, I_le_t, I_le_f, I_lt_t, I_lt_f, I_eq_t, I_eq_f, I_inb', I_ix', Int.toNat_natCast, decide_true, decide_false, Bool.not_false, Bool.not_true, if_true, if_false, wi_eq, wi_eq', wi_ne, wi_row, wi_2, N0, N1, N2, N3, N4, N5, N6, N7, N8, N9, N10, N11, N12, N13, N14, N15, N16, N17, N18, N19, N20, N21, N22, N23, N24, N25, N26, N27, N28, N29, N30, N31, N32, N33, N34, N35, N36, N37, N38, N39, N40, N41, N42, N43, N45, N48, N57, N59, N88, N89, N97, N99, N120, N121, N122, N179, N200, N255, N300, N400, N880, N900, N999, N1019, N50000000, N100000000, N1000000000, N2147483647, N2147483648, c5, c6]
  · unfold nxt f_X7_next_105
    simp (disch := omega) only [↓reduceIte, gd_t, bd_s, nm_W, nm_I, I_add, I_sub, I_mul, I_neg, I_le_t, I_le_f, I_lt_t, I_lt_f, I_eq_t, I_eq_f, I_inb', I_ix', Int.toNat_natCast, decide_true, decide_false, Bool.not_false, Bool.not_true, if_true, if_false, wi_eq, wi_eq', wi_ne, wi_row, wi_2, N0, N1, N2, N3, N4, N5, N6, N7, N8, N9, N10, N11, N12, N13, N14, N15, N16, N17, N18, N19, N20, N21, N22, N23, N24, N25, N26, N27, N28, N29, N30, N31, N32, N33, N34, N35, N36, N37, N38, N39, N40, N41, N42, N43, N45, N48, N57, N59, N88, N89, N97, N99, N120, N121, N122, N179, N200, N255, N300, N400, N880, N900, N999, N1019, N50000000, N100000000, N1000000000, N2147483647, N2147483648, e29, eb]
  · simp (disch := omega) only [wi_eq, wi_eq', wi_ne, wi_row, wi_2]; exact c5
  · simp (disch := omega) only [wi_eq, wi_eq', wi_ne, wi_row, wi_2]; exact c6
  · simp (disch := omega) only [wi_eq, wi_eq', wi_ne, wi_row, wi_2]
  · simp (disch := omega) only [wi_eq, wi_eq', wi_ne, wi_row, wi_2]
  · simp (disch := omega) only [wi_eq, wi_eq', wi_ne, wi_row, wi_2]; exact c1
  · simp (disch := omega) only [wi_eq, wi_eq', wi_ne, wi_row, wi_2]; exact e28
  · simp (disch := omega) only [wi_eq, wi_eq', wi_ne, wi_row, wi_2]
  · simp (disch := omega) only [wi_eq, wi_eq', wi_ne, wi_row, wi_2]; exact e33
  · simp (disch := omega) only [wi_eq, wi_eq', wi_ne, wi_row, wi_2]; exact e29
theorem nxt_1 {τ : Wd} {nx : Nat} {c : Int} (e29 : τ.1 102 29 = I (nx : Int)) (eb : f_X7_byteAt (I (nx : Int)) (wi τ 102 31 (I (nx : Int))) = some (I c, wi τ 102 31 (I (nx : Int)))) (hc : 0 ≤ c ∧ c ≤ 255) : nxt τ = bd (f_X7_in (I c) (I 97) (I 122) (wi τ 102 31 (I (nx : Int)))) fun r8 σ9 => if r8 = 0 then (bd (f_X7_in (I c) (I 48) (I 57) σ9) fun r10 σ11 => if r10 = 0 then (bd (f_X7_nextSign (I c) σ11) fun _ σ12 => (f_X7_next_105 σ12)) else (bd (f_X7_nextWhole σ11) fun _ σ13 => (f_X7_next_105 σ13))) else (bd (f_X7_nextWord σ9) fun _ σ14 => (f_X7_next_105 σ14)) := by
  unfold nxt
  rw [nm_W, e29, wi_ne (show 29 ≠ 31 by decide), e29, eb, bd_s, if_neg (show ¬ I c = (-1 : Int32) by show ¬ I c = I (-1); rw [I_eq (by unfold R; omega) (by unfold R; omega)]; omega)]
  rfl
theorem tok_sgn {N nx : Nat} {bt : Nat → Int} {σ τ : Wd} {k b : Int} (hB : BY σ τ N bt) (hS : ST σ τ N nx) (h : nx < N) (hb : bt nx = b) (hk : (k = 3 ∧ b = 59) ∨ (k = 4 ∧ b = 45)) : ∃ (σ' τ' : Wd) (k : Int) (l : List Int) (n : Int), f_X5_step_38 σ = some (0, σ') ∧ nxt τ = some (0, τ') ∧ TK σ' τ' N bt nx k l n ∧ CF σ σ' ∧ RX τ τ' := by
  obtain ⟨⟨c5, c6, c1⟩, e28, e29, e33, hn⟩ := hS
  have hN := hB.1
  obtain ⟨b1, b2, b3, b4⟩ := hB.2 nx h
  rw [hb] at b1 b2 b3 b4
  have eb := rByte (τ := wi τ 102 31 (I (nx : Int))) hN (by rw [wi_ne (by decide)]; exact e28) h (by rw [wi_row (by decide)]; exact b2) b3 b4
  rw [show b % 256 = b by omega] at eb
  have i1 := rIn0 (σ := wi τ 102 31 (I (nx : Int))) (z := b) (lo := 97) (hi := 122) (by unfold R; omega) (by unfold R; omega) (by unfold R; omega) (by omega)
  have i2 := rIn0 (σ := wi τ 102 31 (I (nx : Int))) (z := b) (lo := 48) (hi := 57) (by unfold R; omega) (by unfold R; omega) (by unfold R; omega) (by omega)
  have es : f_X5_sortOf (I b) (wi (wi σ 1 8 (I (nx : Int))) 1 9 (I 0)) = some (I k, wi (wi σ 1 8 (I (nx : Int))) 1 9 (I 0)) := by
    unfold f_X5_sortOf f_X5_sortOf_14 f_X5_sortOf_28 f_X5_sortOf_49
    rcases hk with ⟨h1, h2⟩ | ⟨h1, h2⟩
    · simp (disch := omega) only [↓reduceIte, gd_t, bd_s, nm_W, nm_I, I_add, I_sub, I_mul, I_neg, I_le_t, I_le_f, I_lt_t, I_lt_f, I_eq_t, I_eq_f, I_inb', I_ix', Int.toNat_natCast, decide_true, decide_false, Bool.not_false, Bool.not_true, if_true, if_false, wi_eq, wi_eq', wi_ne, wi_row, wi_2, N0, N1, N2, N3, N4, N5, N6, N7, N8, N9, N10, N11, N12, N13, N14, N15, N16, N17, N18, N19, N20, N21, N22, N23, N24, N25, N26, N27, N28, N29, N30, N31, N32, N33, N34, N35, N36, N37, N38, N39, N40, N41, N42, N43, N45, N48, N57, N59, N88, N89, N97, N99, N120, N121, N122, N179, N200, N255, N300, N400, N880, N900, N999, N1019, N50000000, N100000000, N1000000000, N2147483647, N2147483648]
      rw [h1]
    · simp (disch := omega) only [↓reduceIte, gd_t, bd_s, nm_W, nm_I, I_add, I_sub, I_mul, I_neg, I_le_t, I_le_f, I_lt_t, I_lt_f, I_eq_t, I_eq_f, I_inb', I_ix', Int.toNat_natCast, decide_true, decide_false, Bool.not_false, Bool.not_true, if_true, if_false, wi_eq, wi_eq', wi_ne, wi_row, wi_2, N0, N1, N2, N3, N4, N5, N6, N7, N8, N9, N10, N11, N12, N13, N14, N15, N16, N17, N18, N19, N20, N21, N22, N23, N24, N25, N26, N27, N28, N29, N30, N31, N32, N33, N34, N35, N36, N37, N38, N39, N40, N41, N42, N43, N45, N48, N57, N59, N88, N89, N97, N99, N120, N121, N122, N179, N200, N255, N300, N400, N880, N900, N999, N1019, N50000000, N100000000, N1000000000, N2147483647, N2147483648]
      rw [h1]
  have en : f_X7_nextSign (I b) (wi τ 102 31 (I (nx : Int))) = some (0, wi (wi (wi (wi τ 102 31 (I (nx : Int))) 102 30 (I 4)) 102 32 (I b)) 102 29 (I ((nx : Int) + 1))) := by
    unfold f_X7_nextSign f_X7_nextSign_12 f_X7_nextSign_17 f_X7_nextSign_28 f_X7_nextSign_50
    rcases hk with ⟨h1, h2⟩ | ⟨h1, h2⟩
    · simp (disch := omega) only [↓reduceIte, gd_t, bd_s, nm_W, nm_I, I_add, I_sub, I_mul, I_neg, I_le_t, I_le_f, I_lt_t, I_lt_f, I_eq_t, I_eq_f, I_inb', I_ix', Int.toNat_natCast, decide_true, decide_false, Bool.not_false, Bool.not_true, if_true, if_false, wi_eq, wi_eq', wi_ne, wi_row, wi_2, N0, N1, N2, N3, N4, N5, N6, N7, N8, N9, N10, N11, N12, N13, N14, N15, N16, N17, N18, N19, N20, N21, N22, N23, N24, N25, N26, N27, N28, N29, N30, N31, N32, N33, N34, N35, N36, N37, N38, N39, N40, N41, N42, N43, N45, N48, N57, N59, N88, N89, N97, N99, N120, N121, N122, N179, N200, N255, N300, N400, N880, N900, N999, N1019, N50000000, N100000000, N1000000000, N2147483647, N2147483648, e29]
    · simp (disch := omega) only [↓reduceIte, gd_t, bd_s, nm_W, nm_I, I_add, I_sub, I_mul, I_neg, I_le_t, I_le_f, I_lt_t, I_lt_f, I_eq_t, I_eq_f, I_inb', I_ix', Int.toNat_natCast, decide_true, decide_false, Bool.not_false, Bool.not_true, if_true, if_false, wi_eq, wi_eq', wi_ne, wi_row, wi_2, N0, N1, N2, N3, N4, N5, N6, N7, N8, N9, N10, N11, N12, N13, N14, N15, N16, N17, N18, N19, N20, N21, N22, N23, N24, N25, N26, N27, N28, N29, N30, N31, N32, N33, N34, N35, N36, N37, N38, N39, N40, N41, N42, N43, N45, N48, N57, N59, N88, N89, N97, N99, N120, N121, N122, N179, N200, N255, N300, N400, N880, N900, N999, N1019, N50000000, N100000000, N1000000000, N2147483647, N2147483648, e29]
  refine ⟨wi (wi (wi (wi σ 1 8 (I (nx : Int))) 1 9 (I 0)) 1 7 (I k)) 1 6 (I ((nx : Int) + 1)), wi (wi (wi (wi τ 102 31 (I (nx : Int))) 102 30 (I 4)) 102 32 (I b)) 102 29 (I ((nx : Int) + 1)), k, [], 0, ?_, ?_, ⟨nx + 1, ⟨by omega, by omega, fun q => by omega⟩, ⟨?_, ?_, ?_, ?_, ?_⟩, ⟨?_, ?_, ?_, fun _ => ?_⟩, ?_⟩, CFt CFw (CFt CFw (CFt CFw CFw)), RXt (RXw (by omega)) (RXt (RXw (by omega)) (RXt (RXw (by omega)) (RXw (by omega))))⟩
  · unfold f_X5_step_38 f_X5_step_79 f_X5_step_140
    simp (disch := omega) only [↓reduceIte, gd_t, bd_s, nm_W, nm_I, I_add, I_sub, I_mul, I_neg, I_le_t, I_le_f, I_lt_t, I_lt_f, I_eq_t, I_eq_f, I_inb', I_ix', Int.toNat_natCast, decide_true, decide_false, Bool.not_false, Bool.not_true, if_true, if_false, wi_eq, wi_eq', wi_ne, wi_row, wi_2, N0, N1, N2, N3, N4, N5, N6, N7, N8, N9, N10, N11, N12, N13, N14, N15, N16, N17, N18, N19, N20, N21, N22, N23, N24, N25, N26, N27, N28, N29, N30, N31, N32, N33, N34, N35, N36, N37, N38, N39, N40, N41, N42, N43, N45, N48, N57, N59, N88, N89, N97, N99, N120, N121, N122, N179, N200, N255, N300, N400, N880, N900, N999, N1019, N50000000, N100000000, N1000000000, N2147483647, N2147483648, c5, c6, b1, es]
  · rw [nxt_1 e29 eb (by omega), i1, bd_s, if_pos (show I 0 = (0 : Int32) from rfl), i2, bd_s, if_pos (show I 0 = (0 : Int32) from rfl), en, bd_s]
    rfl
  · simp (disch := omega) only [wi_eq, wi_eq', wi_ne, wi_row, wi_2]; exact c5
  · simp (disch := omega) only [wi_eq, wi_eq', wi_ne, wi_row, wi_2]; rfl
  · simp (disch := omega) only [wi_eq, wi_eq', wi_ne, wi_row, wi_2]
  · simp (disch := omega) only [wi_eq, wi_eq', wi_ne, wi_row, wi_2]
  · simp (disch := omega) only [wi_eq, wi_eq', wi_ne, wi_row, wi_2]; exact c1
  · simp (disch := omega) only [wi_eq, wi_eq', wi_ne, wi_row, wi_2]; exact e28
  · simp (disch := omega) only [wi_eq, wi_eq', wi_ne, wi_row, wi_2]
  · simp (disch := omega) only [wi_eq, wi_eq', wi_ne, wi_row, wi_2]; exact e33
  · simp (disch := omega) only [wi_eq, wi_eq', wi_ne, wi_row, wi_2]; rfl
  · rcases hk with ⟨h1, h2⟩ | ⟨h1, h2⟩
    · exact Or.inr (Or.inr (Or.inr (Or.inl ⟨h1, by simp (disch := omega) only [wi_eq, wi_eq', wi_ne, wi_row, wi_2], by simp (disch := omega) only [wi_eq, wi_eq', wi_ne, wi_row, wi_2]; rw [h2]⟩)))
    · exact Or.inr (Or.inr (Or.inr (Or.inr (Or.inl ⟨h1, by simp (disch := omega) only [wi_eq, wi_eq', wi_ne, wi_row, wi_2], by simp (disch := omega) only [wi_eq, wi_eq', wi_ne, wi_row, wi_2]; rw [h2]⟩))))
theorem tok_bad {N nx : Nat} {bt : Nat → Int} {σ τ : Wd} (hB : BY σ τ N bt) (hS : ST σ τ N nx) (h : nx < N) (hb : ¬ (97 ≤ bt nx ∧ bt nx ≤ 122) ∧ ¬ (48 ≤ bt nx ∧ bt nx ≤ 57) ∧ bt nx ≠ 59 ∧ bt nx ≠ 45) : ∃ (σ' τ' : Wd) (k : Int) (l : List Int) (n : Int), f_X5_step_38 σ = some (0, σ') ∧ nxt τ = some (0, τ') ∧ TK σ' τ' N bt nx k l n ∧ CF σ σ' ∧ RX τ τ' := by
  obtain ⟨⟨c5, c6, c1⟩, e28, e29, e33, hn⟩ := hS
  have hN := hB.1
  obtain ⟨b1, b2, b3, b4⟩ := hB.2 nx h
  obtain ⟨b, hbb⟩ : ∃ b, b = bt nx := ⟨_, rfl⟩
  rw [← hbb] at b1 b2 b3 b4 hb
  have eb := rByte (τ := wi τ 102 31 (I (nx : Int))) hN (by rw [wi_ne (by decide)]; exact e28) h (by rw [wi_row (by decide)]; exact b2) b3 b4
  obtain ⟨c, hc⟩ : ∃ c, c = b % 256 := ⟨_, rfl⟩
  rw [← hc] at eb
  have cb : 0 ≤ c ∧ c ≤ 255 ∧ ¬ (97 ≤ c ∧ c ≤ 122) ∧ ¬ (48 ≤ c ∧ c ≤ 57) ∧ c ≠ 59 ∧ c ≠ 45 := by omega
  have i1 := rIn0 (σ := wi τ 102 31 (I (nx : Int))) (z := c) (lo := 97) (hi := 122) (by unfold R; omega) (by unfold R; omega) (by unfold R; omega) (by omega)
  have i2 := rIn0 (σ := wi τ 102 31 (I (nx : Int))) (z := c) (lo := 48) (hi := 57) (by unfold R; omega) (by unfold R; omega) (by unfold R; omega) (by omega)
  have es : f_X5_sortOf (I b) (wi (wi σ 1 8 (I (nx : Int))) 1 9 (I 0)) = some (I 5, wi (wi σ 1 8 (I (nx : Int))) 1 9 (I 0)) := by
    unfold f_X5_sortOf f_X5_sortOf_14 f_X5_sortOf_28 f_X5_sortOf_49
    rcases (show b < 48 ∨ (57 < b ∧ b < 97) ∨ 122 < b by omega) with h1 | h1 | h1
    · simp (disch := omega) only [↓reduceIte, gd_t, bd_s, nm_W, nm_I, I_add, I_sub, I_mul, I_neg, I_le_t, I_le_f, I_lt_t, I_lt_f, I_eq_t, I_eq_f, I_inb', I_ix', Int.toNat_natCast, decide_true, decide_false, Bool.not_false, Bool.not_true, if_true, if_false, wi_eq, wi_eq', wi_ne, wi_row, wi_2, N0, N1, N2, N3, N4, N5, N6, N7, N8, N9, N10, N11, N12, N13, N14, N15, N16, N17, N18, N19, N20, N21, N22, N23, N24, N25, N26, N27, N28, N29, N30, N31, N32, N33, N34, N35, N36, N37, N38, N39, N40, N41, N42, N43, N45, N48, N57, N59, N88, N89, N97, N99, N120, N121, N122, N179, N200, N255, N300, N400, N880, N900, N999, N1019, N50000000, N100000000, N1000000000, N2147483647, N2147483648]
    · simp (disch := omega) only [↓reduceIte, gd_t, bd_s, nm_W, nm_I, I_add, I_sub, I_mul, I_neg, I_le_t, I_le_f, I_lt_t, I_lt_f, I_eq_t, I_eq_f, I_inb', I_ix', Int.toNat_natCast, decide_true, decide_false, Bool.not_false, Bool.not_true, if_true, if_false, wi_eq, wi_eq', wi_ne, wi_row, wi_2, N0, N1, N2, N3, N4, N5, N6, N7, N8, N9, N10, N11, N12, N13, N14, N15, N16, N17, N18, N19, N20, N21, N22, N23, N24, N25, N26, N27, N28, N29, N30, N31, N32, N33, N34, N35, N36, N37, N38, N39, N40, N41, N42, N43, N45, N48, N57, N59, N88, N89, N97, N99, N120, N121, N122, N179, N200, N255, N300, N400, N880, N900, N999, N1019, N50000000, N100000000, N1000000000, N2147483647, N2147483648]
    · simp (disch := omega) only [↓reduceIte, gd_t, bd_s, nm_W, nm_I, I_add, I_sub, I_mul, I_neg, I_le_t, I_le_f, I_lt_t, I_lt_f, I_eq_t, I_eq_f, I_inb', I_ix', Int.toNat_natCast, decide_true, decide_false, Bool.not_false, Bool.not_true, if_true, if_false, wi_eq, wi_eq', wi_ne, wi_row, wi_2, N0, N1, N2, N3, N4, N5, N6, N7, N8, N9, N10, N11, N12, N13, N14, N15, N16, N17, N18, N19, N20, N21, N22, N23, N24, N25, N26, N27, N28, N29, N30, N31, N32, N33, N34, N35, N36, N37, N38, N39, N40, N41, N42, N43, N45, N48, N57, N59, N88, N89, N97, N99, N120, N121, N122, N179, N200, N255, N300, N400, N880, N900, N999, N1019, N50000000, N100000000, N1000000000, N2147483647, N2147483648]
  have en : f_X7_nextSign (I c) (wi τ 102 31 (I (nx : Int))) = some (0, wi (wi (wi τ 102 31 (I (nx : Int))) 102 30 (I 0)) 102 32 (I c)) := by
    unfold f_X7_nextSign f_X7_nextSign_17 f_X7_nextSign_28 f_X7_nextSign_50
    simp (disch := omega) only [↓reduceIte, gd_t, bd_s, nm_W, nm_I, I_add, I_sub, I_mul, I_neg, I_le_t, I_le_f, I_lt_t, I_lt_f, I_eq_t, I_eq_f, I_inb', I_ix', Int.toNat_natCast, decide_true, decide_false, Bool.not_false, Bool.not_true, if_true, if_false, wi_eq, wi_eq', wi_ne, wi_row, wi_2, N0, N1, N2, N3, N4, N5, N6, N7, N8, N9, N10, N11, N12, N13, N14, N15, N16, N17, N18, N19, N20, N21, N22, N23, N24, N25, N26, N27, N28, N29, N30, N31, N32, N33, N34, N35, N36, N37, N38, N39, N40, N41, N42, N43, N45, N48, N57, N59, N88, N89, N97, N99, N120, N121, N122, N179, N200, N255, N300, N400, N880, N900, N999, N1019, N50000000, N100000000, N1000000000, N2147483647, N2147483648]
  refine ⟨wi (wi (wi (wi σ 1 8 (I (nx : Int))) 1 9 (I 0)) 1 7 (I 5)) 1 6 (I ((nx : Int) + 1)), wi (wi (wi τ 102 31 (I (nx : Int))) 102 30 (I 0)) 102 32 (I c), 5, [], 0, ?_, ?_, ⟨nx + 1, ⟨by omega, by omega, fun q => by omega⟩, ⟨?_, ?_, ?_, ?_, ?_⟩, ⟨?_, ?_, ?_, fun q => absurd rfl q⟩, Or.inr (Or.inr (Or.inr (Or.inr (Or.inr ⟨rfl, by simp (disch := omega) only [wi_eq, wi_eq', wi_ne, wi_row, wi_2]⟩))))⟩, CFt CFw (CFt CFw (CFt CFw CFw)), RXt (RXw (by omega)) (RXt (RXw (by omega)) (RXw (by omega)))⟩
  · unfold f_X5_step_38 f_X5_step_79 f_X5_step_140
    simp (disch := omega) only [↓reduceIte, gd_t, bd_s, nm_W, nm_I, I_add, I_sub, I_mul, I_neg, I_le_t, I_le_f, I_lt_t, I_lt_f, I_eq_t, I_eq_f, I_inb', I_ix', Int.toNat_natCast, decide_true, decide_false, Bool.not_false, Bool.not_true, if_true, if_false, wi_eq, wi_eq', wi_ne, wi_row, wi_2, N0, N1, N2, N3, N4, N5, N6, N7, N8, N9, N10, N11, N12, N13, N14, N15, N16, N17, N18, N19, N20, N21, N22, N23, N24, N25, N26, N27, N28, N29, N30, N31, N32, N33, N34, N35, N36, N37, N38, N39, N40, N41, N42, N43, N45, N48, N57, N59, N88, N89, N97, N99, N120, N121, N122, N179, N200, N255, N300, N400, N880, N900, N999, N1019, N50000000, N100000000, N1000000000, N2147483647, N2147483648, c5, c6, b1, es]
  · rw [nxt_1 e29 eb (by omega), i1, bd_s, if_pos (show I 0 = (0 : Int32) from rfl), i2, bd_s, if_pos (show I 0 = (0 : Int32) from rfl), en, bd_s]
    rfl
  · simp (disch := omega) only [wi_eq, wi_eq', wi_ne, wi_row, wi_2]; exact c5
  · simp (disch := omega) only [wi_eq, wi_eq', wi_ne, wi_row, wi_2]; rfl
  · simp (disch := omega) only [wi_eq, wi_eq', wi_ne, wi_row, wi_2]
  · simp (disch := omega) only [wi_eq, wi_eq', wi_ne, wi_row, wi_2]
  · simp (disch := omega) only [wi_eq, wi_eq', wi_ne, wi_row, wi_2]; exact c1
  · simp (disch := omega) only [wi_eq, wi_eq', wi_ne, wi_row, wi_2]; exact e28
  · simp (disch := omega) only [wi_eq, wi_eq', wi_ne, wi_row, wi_2]
  · simp (disch := omega) only [wi_eq, wi_eq', wi_ne, wi_row, wi_2]; exact e33
end
section
/-! PURE: the text: a word, a number, to its end, in step -/
def WD (bt : Nat → Int) (pl cur : Nat) : List Int := rl (fun i => bt (pl + i)) (min (cur - pl) 6)
theorem WD_s {bt : Nat → Int} {pl cur : Nat} (h : pl ≤ cur) (h6 : cur - pl < 6) : WD bt pl (cur + 1) = bt cur :: WD bt pl cur := by
  unfold WD
  rw [show min (cur + 1 - pl) 6 = (cur - pl) + 1 by omega, show min (cur - pl) 6 = cur - pl by omega]
  show bt (pl + (cur - pl)) :: _ = _
  rw [show pl + (cur - pl) = cur by omega]
theorem WD_m {bt : Nat → Int} {pl cur : Nat} (h6 : 6 ≤ cur - pl) : WD bt pl (cur + 1) = WD bt pl cur := by
  unfold WD
  rw [show min (cur + 1 - pl) 6 = 6 by omega, show min (cur - pl) 6 = 6 by omega]
theorem WD_e {bt : Nat → Int} {pl cur : Nat} (h6 : cur - pl ≤ 6) : WD bt pl cur = rl (fun i => bt (pl + i)) (cur - pl) := by
  unfold WD
  rw [show min (cur - pl) 6 = cur - pl by omega]
/-- where a word stands as it is read -/
def WS (σ τ : Wd) (N : Nat) (bt : Nat → Int) (pl cur : Nat) : Prop := (σ.1 1 5 = I (N : Int) ∧ σ.1 1 6 = I (cur : Int) ∧ σ.1 1 8 = I (pl : Int) ∧ σ.1 1 7 = I 1 ∧ σ.1 1 9 = I (w27 (WD bt pl cur)) ∧ σ.1 1 1 = I 0) ∧ (τ.1 102 28 = I (N : Int) ∧ τ.1 102 29 = I (cur : Int) ∧ τ.1 102 31 = I (pl : Int) ∧ τ.1 102 33 = I 0 ∧ τ.2.1 102 34 = w64 (WD bt pl cur)) ∧ pl ≤ cur ∧ cur ≤ N ∧ (∀ i, i < cur - pl → 97 ≤ bt (pl + i) ∧ bt (pl + i) ≤ 122)
theorem word_end {N pl cur : Nat} {bt : Nat → Int} {σ τ : Wd} (hN : N ≤ 900) (hW : WS σ τ N bt pl cur) : ∃ (σ' τ' : Wd) (k : Int) (l : List Int), f_X5_stepOver_121 (I 6) σ = some (0, σ') ∧ (if ((τ.1 102 29) - (τ.1 102 31)) ≤ (6 : Int32) then (f_X7_nextWord_91 (2 : Int32) τ) else (f_X7_nextWord_91 (0 : Int32) τ)) = some (0, τ') ∧ TK σ' τ' N bt pl k l 0 ∧ CF σ σ' ∧ RX τ τ' := by
  obtain ⟨⟨c5, c6, c8, c7, c9, c1⟩, ⟨e28, e29, e31, e33, e34⟩, h1, h2, h3⟩ := hW
  by_cases c : cur - pl ≤ 6
  · rw [WD_e c] at c9 e34
    refine ⟨σ, wi τ 102 30 (I 2), 1, rl (fun i => bt (pl + i)) (cur - pl), ?_, ?_, ⟨cur, ⟨h1, h2, fun q => by omega⟩, ⟨c5, c6, c7, c8, c1⟩, ⟨by simp (disch := omega) only [wi_eq, wi_eq', wi_ne, wi_row, wi_2]; exact e28, by simp (disch := omega) only [wi_eq, wi_eq', wi_ne, wi_row, wi_2]; exact e31, by simp (disch := omega) only [wi_eq, wi_eq', wi_ne, wi_row, wi_2]; exact e33, fun _ => by simp (disch := omega) only [wi_eq, wi_eq', wi_ne, wi_row, wi_2]; exact e29⟩, Or.inr (Or.inl ⟨rfl, by simp (disch := omega) only [wi_eq, wi_eq', wi_ne, wi_row, wi_2], rfl, c, rl_ltr _ h3, c9, e34⟩)⟩, CFr, RXw (by omega)⟩
    · unfold f_X5_stepOver_121 f_X5_stepOver_139
      simp (disch := omega) only [↓reduceIte, gd_t, bd_s, nm_W, nm_I, I_add, I_sub, I_mul, I_neg, I_le_t, I_le_f, I_lt_t, I_lt_f, I_eq_t, I_eq_f, I_inb', I_ix', Int.toNat_natCast, decide_true, decide_false, Bool.not_false, Bool.not_true, if_true, if_false, wi_eq, wi_eq', wi_ne, wi_row, wi_2, N0, N1, N2, N3, N4, N5, N6, N7, N8, N9, N10, N11, N12, N13, N14, N15, N16, N17, N18, N19, N20, N21, N22, N23, N24, N25, N26, N27, N28, N29, N30, N31, N32, N33, N34, N35, N36, N37, N38, N39, N40, N41, N42, N43, N45, N48, N57, N59, N88, N89, N97, N99, N120, N121, N122, N179, N200, N255, N300, N400, N880, N900, N999, N1019, N50000000, N100000000, N1000000000, N2147483647, N2147483648, c6, c8]
    · unfold f_X7_nextWord_91
      simp (disch := omega) only [↓reduceIte, gd_t, bd_s, nm_W, nm_I, I_add, I_sub, I_mul, I_neg, I_le_t, I_le_f, I_lt_t, I_lt_f, I_eq_t, I_eq_f, I_inb', I_ix', Int.toNat_natCast, decide_true, decide_false, Bool.not_false, Bool.not_true, if_true, if_false, wi_eq, wi_eq', wi_ne, wi_row, wi_2, N0, N1, N2, N3, N4, N5, N6, N7, N8, N9, N10, N11, N12, N13, N14, N15, N16, N17, N18, N19, N20, N21, N22, N23, N24, N25, N26, N27, N28, N29, N30, N31, N32, N33, N34, N35, N36, N37, N38, N39, N40, N41, N42, N43, N45, N48, N57, N59, N88, N89, N97, N99, N120, N121, N122, N179, N200, N255, N300, N400, N880, N900, N999, N1019, N50000000, N100000000, N1000000000, N2147483647, N2147483648, e29, e31]
  · refine ⟨wi σ 1 7 (I 5), wi τ 102 30 (I 0), 5, [], ?_, ?_, ⟨cur, ⟨h1, h2, fun q => by omega⟩, ⟨by simp (disch := omega) only [wi_eq, wi_eq', wi_ne, wi_row, wi_2]; exact c5, by simp (disch := omega) only [wi_eq, wi_eq', wi_ne, wi_row, wi_2]; exact c6, by simp (disch := omega) only [wi_eq, wi_eq', wi_ne, wi_row, wi_2], by simp (disch := omega) only [wi_eq, wi_eq', wi_ne, wi_row, wi_2]; exact c8, by simp (disch := omega) only [wi_eq, wi_eq', wi_ne, wi_row, wi_2]; exact c1⟩, ⟨by simp (disch := omega) only [wi_eq, wi_eq', wi_ne, wi_row, wi_2]; exact e28, by simp (disch := omega) only [wi_eq, wi_eq', wi_ne, wi_row, wi_2]; exact e31, by simp (disch := omega) only [wi_eq, wi_eq', wi_ne, wi_row, wi_2]; exact e33, fun q => absurd rfl q⟩, Or.inr (Or.inr (Or.inr (Or.inr (Or.inr ⟨rfl, by simp (disch := omega) only [wi_eq, wi_eq', wi_ne, wi_row, wi_2]⟩))))⟩, CFw, RXw (by omega)⟩
    · unfold f_X5_stepOver_121 f_X5_stepOver_139
      simp (disch := omega) only [↓reduceIte, gd_t, bd_s, nm_W, nm_I, I_add, I_sub, I_mul, I_neg, I_le_t, I_le_f, I_lt_t, I_lt_f, I_eq_t, I_eq_f, I_inb', I_ix', Int.toNat_natCast, decide_true, decide_false, Bool.not_false, Bool.not_true, if_true, if_false, wi_eq, wi_eq', wi_ne, wi_row, wi_2, N0, N1, N2, N3, N4, N5, N6, N7, N8, N9, N10, N11, N12, N13, N14, N15, N16, N17, N18, N19, N20, N21, N22, N23, N24, N25, N26, N27, N28, N29, N30, N31, N32, N33, N34, N35, N36, N37, N38, N39, N40, N41, N42, N43, N45, N48, N57, N59, N88, N89, N97, N99, N120, N121, N122, N179, N200, N255, N300, N400, N880, N900, N999, N1019, N50000000, N100000000, N1000000000, N2147483647, N2147483648, c6, c8]
    · unfold f_X7_nextWord_91
      simp (disch := omega) only [↓reduceIte, gd_t, bd_s, nm_W, nm_I, I_add, I_sub, I_mul, I_neg, I_le_t, I_le_f, I_lt_t, I_lt_f, I_eq_t, I_eq_f, I_inb', I_ix', Int.toNat_natCast, decide_true, decide_false, Bool.not_false, Bool.not_true, if_true, if_false, wi_eq, wi_eq', wi_ne, wi_row, wi_2, N0, N1, N2, N3, N4, N5, N6, N7, N8, N9, N10, N11, N12, N13, N14, N15, N16, N17, N18, N19, N20, N21, N22, N23, N24, N25, N26, N27, N28, N29, N30, N31, N32, N33, N34, N35, N36, N37, N38, N39, N40, N41, N42, N43, N45, N48, N57, N59, N88, N89, N97, N99, N120, N121, N122, N179, N200, N255, N300, N400, N880, N900, N999, N1019, N50000000, N100000000, N1000000000, N2147483647, N2147483648, e29, e31]
theorem word_ok {N pl : Nat} {bt : Nat → Int} : ∀ (r cur n n' : Nat) (σ τ : Wd), cur + r = N → r < n → r < n' → BY σ τ N bt → WS σ τ N bt pl cur →
    ∃ (σ' τ' : Wd) (k : Int) (l : List Int), f_X5_stepOver_34 n (I 97) (I 122) (I 6) (I 27) (I 96) σ = some (0, σ') ∧ f_X7_nextWord_5 n' τ = some (0, τ') ∧ TK σ' τ' N bt pl k l 0 ∧ CF σ σ' ∧ RX τ τ'
  | 0, cur, n + 1, n' + 1, σ, τ, hr, _, _, hB, hW => by
    have hN := hB.1
    have en : cur = N := by omega
    subst en
    obtain ⟨σ', τ', k, l, q1, q2, q3⟩ := word_end hN hW
    obtain ⟨⟨c5, c6, c8, c7, c9, c1⟩, ⟨e28, e29, e31, e33, e34⟩, h1, h2, h3⟩ := hW
    refine ⟨σ', τ', k, l, ?_, ?_, q3⟩
    · rw [← q1, f_X5_stepOver_34]
      dsimp only
      rw [if_pos (by rw [c5, c6]; exact Int32.le_refl _)]
    · rw [← q2, f_X7_nextWord_5]
      dsimp only
      rw [show f_X7_byteAt (τ.1 102 29) τ = some (I (-1), τ) by rw [e29]; exact rByteE hN e28, bd_s, show f_X7_in (I (-1)) (97 : Int32) (122 : Int32) τ = some (I 0, τ) from rIn0 (z := -1) (lo := 97) (hi := 122) (by unfold R; omega) (by unfold R; omega) (by unfold R; omega) (by omega), bd_s, if_pos (show I 0 = (0 : Int32) from rfl)]
  | r + 1, cur, n + 1, n' + 1, σ, τ, hr, hn1, hn2, hB, hW => by
    have hN := hB.1
    have hW0 := hW
    obtain ⟨⟨c5, c6, c8, c7, c9, c1⟩, ⟨e28, e29, e31, e33, e34⟩, h1, h2, h3⟩ := hW
    obtain ⟨b1, b2, b3, b4⟩ := hB.2 cur (by omega)
    obtain ⟨b, hbb⟩ : ∃ b, b = bt cur := ⟨_, rfl⟩
    rw [← hbb] at b1 b2 b3 b4
    have eb := rByte hN e28 (show cur < N by omega) b2 b3 b4
    by_cases c : 97 ≤ b ∧ b ≤ 122
    · rw [show b % 256 = b by omega] at eb
      have i1 := rIn1 (σ := τ) (z := b) (lo := 97) (hi := 122) (by unfold R; omega) (by unfold R; omega) (by unfold R; omega) c
      have h3' : ∀ i, i < cur + 1 - pl → 97 ≤ bt (pl + i) ∧ bt (pl + i) ≤ 122 := fun i hi => by
        by_cases ci : i < cur - pl
        · exact h3 i ci
        · rw [show pl + i = cur by omega, ← hbb]; exact c
      by_cases c6' : 6 ≤ cur - pl
      · obtain ⟨σ', τ', k, l, q1, q2, q3, q4, q5⟩ := word_ok r (cur + 1) n n' (wi σ 1 6 (I ((cur : Int) + 1))) (wi τ 102 29 (I ((cur : Int) + 1))) (by omega) (by omega) (by omega) (BY_f hB CGw (RXw (by omega)))
          ⟨⟨by simp (disch := omega) only [wi_eq, wi_eq', wi_ne, wi_row, wi_2]; exact c5, by simp (disch := omega) only [wi_eq, wi_eq', wi_ne, wi_row, wi_2]; rfl, by simp (disch := omega) only [wi_eq, wi_eq', wi_ne, wi_row, wi_2]; exact c8, by simp (disch := omega) only [wi_eq, wi_eq', wi_ne, wi_row, wi_2]; exact c7, by simp (disch := omega) only [wi_eq, wi_eq', wi_ne, wi_row, wi_2]; rw [WD_m c6']; exact c9, by simp (disch := omega) only [wi_eq, wi_eq', wi_ne, wi_row, wi_2]; exact c1⟩, ⟨by simp (disch := omega) only [wi_eq, wi_eq', wi_ne, wi_row, wi_2]; exact e28, by simp (disch := omega) only [wi_eq, wi_eq', wi_ne, wi_row, wi_2]; rfl, by simp (disch := omega) only [wi_eq, wi_eq', wi_ne, wi_row, wi_2]; exact e31, by simp (disch := omega) only [wi_eq, wi_eq', wi_ne, wi_row, wi_2]; exact e33, by simp (disch := omega) only [wi_eq, wi_eq', wi_ne, wi_row, wi_2]; rw [WD_m c6']; exact e34⟩, by omega, by omega, h3'⟩
        refine ⟨σ', τ', k, l, ?_, ?_, q3, CFt CFw q4, RXt (RXw (by omega)) q5⟩
        · rw [← q1, f_X5_stepOver_34]
          clear hB hW0 h3 h3'
          simp (disch := omega) only [↓reduceIte, gd_t, bd_s, nm_W, nm_I, I_add, I_sub, I_mul, I_neg, I_le_t, I_le_f, I_lt_t, I_lt_f, I_eq_t, I_eq_f, I_inb', I_ix', Int.toNat_natCast, decide_true, decide_false, Bool.not_false, Bool.not_true, if_true, if_false, wi_eq, wi_eq', wi_ne, wi_row, wi_2, N0, N1, N2, N3, N4, N5, N6, N7, N8, N9, N10, N11, N12, N13, N14, N15, N16, N17, N18, N19, N20, N21, N22, N23, N24, N25, N26, N27, N28, N29, N30, N31, N32, N33, N34, N35, N36, N37, N38, N39, N40, N41, N42, N43, N45, N48, N57, N59, N88, N89, N97, N99, N120, N121, N122, N179, N200, N255, N300, N400, N880, N900, N999, N1019, N50000000, N100000000, N1000000000, N2147483647, N2147483648, c5, c6, b1, c8, f_X5_stepOver_108]
        · rw [← q2, f_X7_nextWord_5]
          clear hB hW0 h3 h3'
          simp (disch := omega) only [↓reduceIte, gd_t, bd_s, nm_W, nm_I, I_add, I_sub, I_mul, I_neg, I_le_t, I_le_f, I_lt_t, I_lt_f, I_eq_t, I_eq_f, I_inb', I_ix', Int.toNat_natCast, decide_true, decide_false, Bool.not_false, Bool.not_true, if_true, if_false, wi_eq, wi_eq', wi_ne, wi_row, wi_2, N0, N1, N2, N3, N4, N5, N6, N7, N8, N9, N10, N11, N12, N13, N14, N15, N16, N17, N18, N19, N20, N21, N22, N23, N24, N25, N26, N27, N28, N29, N30, N31, N32, N33, N34, N35, N36, N37, N38, N39, N40, N41, N42, N43, N45, N48, N57, N59, N88, N89, N97, N99, N120, N121, N122, N179, N200, N255, N300, N400, N880, N900, N999, N1019, N50000000, N100000000, N1000000000, N2147483647, N2147483648, e29, eb, i1, e31, f_X7_nextWord_58]
      · have ew := WD_s (bt := bt) h1 (show cur - pl < 6 by omega)
        rw [← hbb] at ew
        have e8 : ((I 8).toInt64 &&& 63 : Int64) = 8 := by decide
        obtain ⟨σ', τ', k, l, q1, q2, q3, q4, q5⟩ := word_ok r (cur + 1) n n' (wi (wi σ 1 9 (I (w27 (WD bt pl cur) * 27 + b - 96))) 1 6 (I ((cur : Int) + 1))) (wi (wl τ 102 34 ((w64 (WD bt pl cur) <<< (8 : Int64)) ||| (I b).toInt64)) 102 29 (I ((cur : Int) + 1))) (by omega) (by omega) (by omega) (BY_f hB (CGt CGw CGw) (RXt RXl (RXw (by omega))))
          ⟨⟨by simp (disch := omega) only [wi_eq, wi_eq', wi_ne, wi_row, wi_2]; exact c5, by simp (disch := omega) only [wi_eq, wi_eq', wi_ne, wi_row, wi_2]; rfl, by simp (disch := omega) only [wi_eq, wi_eq', wi_ne, wi_row, wi_2]; exact c8, by simp (disch := omega) only [wi_eq, wi_eq', wi_ne, wi_row, wi_2]; exact c7, by simp (disch := omega) only [wi_eq, wi_eq', wi_ne, wi_row, wi_2]; rw [ew]; show _ = I (w27 (WD bt pl cur) * 27 + (b - 96)); rw [Int.add_sub_assoc], by simp (disch := omega) only [wi_eq, wi_eq', wi_ne, wi_row, wi_2]; exact c1⟩, ⟨by simp (disch := omega) only [wi_eq, wi_eq', wi_ne, wi_row, wi_2]; exact e28, by simp (disch := omega) only [wi_eq, wi_eq', wi_ne, wi_row, wi_2]; rfl, by simp (disch := omega) only [wi_eq, wi_eq', wi_ne, wi_row, wi_2]; exact e31, by simp (disch := omega) only [wi_eq, wi_eq', wi_ne, wi_row, wi_2]; exact e33, by rw [wi_2, wl_eq, ew]; rfl⟩, by omega, by omega, h3'⟩
        refine ⟨σ', τ', k, l, ?_, ?_, q3, CFt (CFt CFw CFw) q4, RXt (RXt RXl (RXw (by omega))) q5⟩
        · rw [← q1, f_X5_stepOver_34]
          clear hB hW0 h3 h3'
          simp (disch := omega) only [↓reduceIte, gd_t, bd_s, nm_W, nm_I, I_add, I_sub, I_mul, I_neg, I_le_t, I_le_f, I_lt_t, I_lt_f, I_eq_t, I_eq_f, I_inb', I_ix', Int.toNat_natCast, decide_true, decide_false, Bool.not_false, Bool.not_true, if_true, if_false, wi_eq, wi_eq', wi_ne, wi_row, wi_2, N0, N1, N2, N3, N4, N5, N6, N7, N8, N9, N10, N11, N12, N13, N14, N15, N16, N17, N18, N19, N20, N21, N22, N23, N24, N25, N26, N27, N28, N29, N30, N31, N32, N33, N34, N35, N36, N37, N38, N39, N40, N41, N42, N43, N45, N48, N57, N59, N88, N89, N97, N99, N120, N121, N122, N179, N200, N255, N300, N400, N880, N900, N999, N1019, N50000000, N100000000, N1000000000, N2147483647, N2147483648, c5, c6, b1, c8, c9, f_X5_stepOver_108]
        · rw [← q2, f_X7_nextWord_5]
          clear hB hW0 h3 h3'
          simp (disch := omega) only [↓reduceIte, gd_t, bd_s, nm_W, nm_I, I_add, I_sub, I_mul, I_neg, I_le_t, I_le_f, I_lt_t, I_lt_f, I_eq_t, I_eq_f, I_inb', I_ix', Int.toNat_natCast, decide_true, decide_false, Bool.not_false, Bool.not_true, if_true, if_false, wi_eq, wi_eq', wi_ne, wi_row, wi_2, N0, N1, N2, N3, N4, N5, N6, N7, N8, N9, N10, N11, N12, N13, N14, N15, N16, N17, N18, N19, N20, N21, N22, N23, N24, N25, N26, N27, N28, N29, N30, N31, N32, N33, N34, N35, N36, N37, N38, N39, N40, N41, N42, N43, N45, N48, N57, N59, N88, N89, N97, N99, N120, N121, N122, N179, N200, N255, N300, N400, N880, N900, N999, N1019, N50000000, N100000000, N1000000000, N2147483647, N2147483648, e29, eb, i1, e31, e34, e8, f_X7_nextWord_58, wl_1]
    · obtain ⟨σ', τ', k, l, q1, q2, q3⟩ := word_end hN hW0
      have i0 := rIn0 (σ := τ) (z := b % 256) (lo := 97) (hi := 122) (by unfold R; omega) (by unfold R; omega) (by unfold R; omega) (by omega)
      have nle : ¬ σ.1 1 5 ≤ σ.1 1 6 := by rw [c5, c6, I_le (by unfold R; omega) (by unfold R; omega)]; omega
      have g1 : inb (σ.1 1 6) 900 = true := by rw [c6]; exact inI (by omega) (by decide)
      have g2 : ix (σ.1 1 6) = cur := by rw [c6]; exact ixI (by omega)
      refine ⟨σ', τ', k, l, ?_, ?_, q3⟩
      · rw [← q1, f_X5_stepOver_34]
        dsimp only
        rw [if_neg nle, g1, gd_t, g2, b1]
        by_cases cl : b < 97
        · rw [if_pos (show I b < I 97 by rw [I_lt (by unfold R; omega) (by unfold R; omega)]; exact cl)]
        · rw [if_neg (show ¬ I b < I 97 by rw [I_lt (by unfold R; omega) (by unfold R; omega)]; exact cl), gd_t, if_pos (show I 122 < I b by rw [I_lt (by unfold R; omega) (by unfold R; omega)]; omega)]
      · rw [← q2, f_X7_nextWord_5]
        dsimp only
        rw [show f_X7_byteAt (τ.1 102 29) τ = some (I (b % 256), τ) by rw [e29]; exact eb, bd_s, show f_X7_in (I (b % 256)) (97 : Int32) (122 : Int32) τ = some (I 0, τ) from i0, bd_s, if_pos (show I 0 = (0 : Int32) from rfl)]
/-- where a number stands as it is read -/
def NS (σ τ : Wd) (N : Nat) (pl cur : Nat) (v : Int) : Prop := (σ.1 1 5 = I (N : Int) ∧ σ.1 1 6 = I (cur : Int) ∧ σ.1 1 8 = I (pl : Int) ∧ σ.1 1 7 = I 2 ∧ σ.1 1 9 = I v ∧ σ.1 1 1 = I 0) ∧ (τ.1 102 28 = I (N : Int) ∧ τ.1 102 29 = I (cur : Int) ∧ τ.1 102 31 = I (pl : Int) ∧ τ.1 102 33 = I 0 ∧ τ.1 102 32 = I v) ∧ pl ≤ cur ∧ cur ≤ N ∧ 0 ≤ v ∧ v ≤ 999 ∧ (cur - pl = 0 → v = 0) ∧ (cur - pl = 1 → v ≤ 9) ∧ (cur - pl = 2 → v ≤ 99)
theorem num_end {N pl cur : Nat} {bt : Nat → Int} {σ τ : Wd} {v : Int} (hN : N ≤ 900) (hW : NS σ τ N pl cur v) : ∃ (σ' τ' : Wd) (k n : Int), f_X5_stepOver_121 (I 3) σ = some (0, σ') ∧ (if ((τ.1 102 29) - (τ.1 102 31)) ≤ (3 : Int32) then (f_X7_nextWhole_91 (3 : Int32) τ) else (f_X7_nextWhole_91 (0 : Int32) τ)) = some (0, τ') ∧ TK σ' τ' N bt pl k [] n ∧ CF σ σ' ∧ RX τ τ' := by
  obtain ⟨⟨c5, c6, c8, c7, c9, c1⟩, ⟨e28, e29, e31, e33, e32⟩, h1, h2, h3, h4, -⟩ := hW
  by_cases c : cur - pl ≤ 3
  · refine ⟨σ, wi τ 102 30 (I 3), 2, v, ?_, ?_, ⟨cur, ⟨h1, h2, fun q => by omega⟩, ⟨c5, c6, c7, c8, c1⟩, ⟨by simp (disch := omega) only [wi_eq, wi_eq', wi_ne, wi_row, wi_2]; exact e28, by simp (disch := omega) only [wi_eq, wi_eq', wi_ne, wi_row, wi_2]; exact e31, by simp (disch := omega) only [wi_eq, wi_eq', wi_ne, wi_row, wi_2]; exact e33, fun _ => by simp (disch := omega) only [wi_eq, wi_eq', wi_ne, wi_row, wi_2]; exact e29⟩, Or.inr (Or.inr (Or.inl ⟨rfl, by simp (disch := omega) only [wi_eq, wi_eq', wi_ne, wi_row, wi_2], h3, h4, c9, by simp (disch := omega) only [wi_eq, wi_eq', wi_ne, wi_row, wi_2]; exact e32⟩))⟩, CFr, RXw (by omega)⟩
    · unfold f_X5_stepOver_121 f_X5_stepOver_139
      simp (disch := omega) only [↓reduceIte, gd_t, bd_s, nm_W, nm_I, I_add, I_sub, I_mul, I_neg, I_le_t, I_le_f, I_lt_t, I_lt_f, I_eq_t, I_eq_f, I_inb', I_ix', Int.toNat_natCast, decide_true, decide_false, Bool.not_false, Bool.not_true, if_true, if_false, wi_eq, wi_eq', wi_ne, wi_row, wi_2, N0, N1, N2, N3, N4, N5, N6, N7, N8, N9, N10, N11, N12, N13, N14, N15, N16, N17, N18, N19, N20, N21, N22, N23, N24, N25, N26, N27, N28, N29, N30, N31, N32, N33, N34, N35, N36, N37, N38, N39, N40, N41, N42, N43, N45, N48, N57, N59, N88, N89, N97, N99, N120, N121, N122, N179, N200, N255, N300, N400, N880, N900, N999, N1019, N50000000, N100000000, N1000000000, N2147483647, N2147483648, c6, c8]
    · unfold f_X7_nextWhole_91
      simp (disch := omega) only [↓reduceIte, gd_t, bd_s, nm_W, nm_I, I_add, I_sub, I_mul, I_neg, I_le_t, I_le_f, I_lt_t, I_lt_f, I_eq_t, I_eq_f, I_inb', I_ix', Int.toNat_natCast, decide_true, decide_false, Bool.not_false, Bool.not_true, if_true, if_false, wi_eq, wi_eq', wi_ne, wi_row, wi_2, N0, N1, N2, N3, N4, N5, N6, N7, N8, N9, N10, N11, N12, N13, N14, N15, N16, N17, N18, N19, N20, N21, N22, N23, N24, N25, N26, N27, N28, N29, N30, N31, N32, N33, N34, N35, N36, N37, N38, N39, N40, N41, N42, N43, N45, N48, N57, N59, N88, N89, N97, N99, N120, N121, N122, N179, N200, N255, N300, N400, N880, N900, N999, N1019, N50000000, N100000000, N1000000000, N2147483647, N2147483648, e29, e31]
  · refine ⟨wi σ 1 7 (I 5), wi τ 102 30 (I 0), 5, 0, ?_, ?_, ⟨cur, ⟨h1, h2, fun q => by omega⟩, ⟨by simp (disch := omega) only [wi_eq, wi_eq', wi_ne, wi_row, wi_2]; exact c5, by simp (disch := omega) only [wi_eq, wi_eq', wi_ne, wi_row, wi_2]; exact c6, by simp (disch := omega) only [wi_eq, wi_eq', wi_ne, wi_row, wi_2], by simp (disch := omega) only [wi_eq, wi_eq', wi_ne, wi_row, wi_2]; exact c8, by simp (disch := omega) only [wi_eq, wi_eq', wi_ne, wi_row, wi_2]; exact c1⟩, ⟨by simp (disch := omega) only [wi_eq, wi_eq', wi_ne, wi_row, wi_2]; exact e28, by simp (disch := omega) only [wi_eq, wi_eq', wi_ne, wi_row, wi_2]; exact e31, by simp (disch := omega) only [wi_eq, wi_eq', wi_ne, wi_row, wi_2]; exact e33, fun q => absurd rfl q⟩, Or.inr (Or.inr (Or.inr (Or.inr (Or.inr ⟨rfl, by simp (disch := omega) only [wi_eq, wi_eq', wi_ne, wi_row, wi_2]⟩))))⟩, CFw, RXw (by omega)⟩
    · unfold f_X5_stepOver_121 f_X5_stepOver_139
      simp (disch := omega) only [↓reduceIte, gd_t, bd_s, nm_W, nm_I, I_add, I_sub, I_mul, I_neg, I_le_t, I_le_f, I_lt_t, I_lt_f, I_eq_t, I_eq_f, I_inb', I_ix', Int.toNat_natCast, decide_true, decide_false, Bool.not_false, Bool.not_true, if_true, if_false, wi_eq, wi_eq', wi_ne, wi_row, wi_2, N0, N1, N2, N3, N4, N5, N6, N7, N8, N9, N10, N11, N12, N13, N14, N15, N16, N17, N18, N19, N20, N21, N22, N23, N24, N25, N26, N27, N28, N29, N30, N31, N32, N33, N34, N35, N36, N37, N38, N39, N40, N41, N42, N43, N45, N48, N57, N59, N88, N89, N97, N99, N120, N121, N122, N179, N200, N255, N300, N400, N880, N900, N999, N1019, N50000000, N100000000, N1000000000, N2147483647, N2147483648, c6, c8]
    · unfold f_X7_nextWhole_91
      simp (disch := omega) only [↓reduceIte, gd_t, bd_s, nm_W, nm_I, I_add, I_sub, I_mul, I_neg, I_le_t, I_le_f, I_lt_t, I_lt_f, I_eq_t, I_eq_f, I_inb', I_ix', Int.toNat_natCast, decide_true, decide_false, Bool.not_false, Bool.not_true, if_true, if_false, wi_eq, wi_eq', wi_ne, wi_row, wi_2, N0, N1, N2, N3, N4, N5, N6, N7, N8, N9, N10, N11, N12, N13, N14, N15, N16, N17, N18, N19, N20, N21, N22, N23, N24, N25, N26, N27, N28, N29, N30, N31, N32, N33, N34, N35, N36, N37, N38, N39, N40, N41, N42, N43, N45, N48, N57, N59, N88, N89, N97, N99, N120, N121, N122, N179, N200, N255, N300, N400, N880, N900, N999, N1019, N50000000, N100000000, N1000000000, N2147483647, N2147483648, e29, e31]
theorem num_ok {N pl : Nat} {bt : Nat → Int} : ∀ (r cur n n' : Nat) (σ τ : Wd) (v : Int), cur + r = N → r < n → r < n' → BY σ τ N bt → NS σ τ N pl cur v →
    ∃ (σ' τ' : Wd) (k m : Int), f_X5_stepOver_34 n (I 48) (I 57) (I 3) (I 10) (I 48) σ = some (0, σ') ∧ f_X7_nextWhole_5 n' τ = some (0, τ') ∧ TK σ' τ' N bt pl k [] m ∧ CF σ σ' ∧ RX τ τ'
  | 0, cur, n + 1, n' + 1, σ, τ, v, hr, _, _, hB, hW => by
    have hN := hB.1
    have en : cur = N := by omega
    subst en
    obtain ⟨σ', τ', k, l, q1, q2, q3⟩ := num_end (bt := bt) hN hW
    obtain ⟨⟨c5, c6, c8, c7, c9, c1⟩, ⟨e28, e29, e31, e33, e32⟩, -⟩ := hW
    refine ⟨σ', τ', k, l, ?_, ?_, q3⟩
    · rw [← q1, f_X5_stepOver_34]
      dsimp only
      rw [if_pos (by rw [c5, c6]; exact Int32.le_refl _)]
    · rw [← q2, f_X7_nextWhole_5]
      dsimp only
      rw [show f_X7_byteAt (τ.1 102 29) τ = some (I (-1), τ) by rw [e29]; exact rByteE hN e28, bd_s, show f_X7_in (I (-1)) (48 : Int32) (57 : Int32) τ = some (I 0, τ) from rIn0 (z := -1) (lo := 48) (hi := 57) (by unfold R; omega) (by unfold R; omega) (by unfold R; omega) (by omega), bd_s, if_pos (show I 0 = (0 : Int32) from rfl)]
  | r + 1, cur, n + 1, n' + 1, σ, τ, v, hr, hn1, hn2, hB, hW => by
    have hN := hB.1
    have hW0 := hW
    obtain ⟨⟨c5, c6, c8, c7, c9, c1⟩, ⟨e28, e29, e31, e33, e32⟩, h1, h2, h3, h4, h5, h6, h7⟩ := hW
    obtain ⟨b1, b2, b3, b4⟩ := hB.2 cur (by omega)
    obtain ⟨b, hbb⟩ : ∃ b, b = bt cur := ⟨_, rfl⟩
    rw [← hbb] at b1 b2 b3 b4
    have eb := rByte hN e28 (show cur < N by omega) b2 b3 b4
    by_cases c : 48 ≤ b ∧ b ≤ 57
    · rw [show b % 256 = b by omega] at eb
      have i1 := rIn1 (σ := τ) (z := b) (lo := 48) (hi := 57) (by unfold R; omega) (by unfold R; omega) (by unfold R; omega) c
      by_cases c6' : 3 ≤ cur - pl
      · obtain ⟨σ', τ', k, l, q1, q2, q3, q4, q5⟩ := num_ok r (cur + 1) n n' (wi σ 1 6 (I ((cur : Int) + 1))) (wi τ 102 29 (I ((cur : Int) + 1))) v (by omega) (by omega) (by omega) (BY_f hB CGw (RXw (by omega)))
          ⟨⟨by simp (disch := omega) only [wi_eq, wi_eq', wi_ne, wi_row, wi_2]; exact c5, by simp (disch := omega) only [wi_eq, wi_eq', wi_ne, wi_row, wi_2]; rfl, by simp (disch := omega) only [wi_eq, wi_eq', wi_ne, wi_row, wi_2]; exact c8, by simp (disch := omega) only [wi_eq, wi_eq', wi_ne, wi_row, wi_2]; exact c7, by simp (disch := omega) only [wi_eq, wi_eq', wi_ne, wi_row, wi_2]; exact c9, by simp (disch := omega) only [wi_eq, wi_eq', wi_ne, wi_row, wi_2]; exact c1⟩, ⟨by simp (disch := omega) only [wi_eq, wi_eq', wi_ne, wi_row, wi_2]; exact e28, by simp (disch := omega) only [wi_eq, wi_eq', wi_ne, wi_row, wi_2]; rfl, by simp (disch := omega) only [wi_eq, wi_eq', wi_ne, wi_row, wi_2]; exact e31, by simp (disch := omega) only [wi_eq, wi_eq', wi_ne, wi_row, wi_2]; exact e33, by simp (disch := omega) only [wi_eq, wi_eq', wi_ne, wi_row, wi_2]; exact e32⟩, by omega, by omega, by omega, by omega, by omega, by omega, by omega⟩
        refine ⟨σ', τ', k, l, ?_, ?_, q3, CFt CFw q4, RXt (RXw (by omega)) q5⟩
        · rw [← q1, f_X5_stepOver_34]
          clear hB hW0
          simp (disch := omega) only [↓reduceIte, gd_t, bd_s, nm_W, nm_I, I_add, I_sub, I_mul, I_neg, I_le_t, I_le_f, I_lt_t, I_lt_f, I_eq_t, I_eq_f, I_inb', I_ix', Int.toNat_natCast, decide_true, decide_false, Bool.not_false, Bool.not_true, if_true, if_false, wi_eq, wi_eq', wi_ne, wi_row, wi_2, N0, N1, N2, N3, N4, N5, N6, N7, N8, N9, N10, N11, N12, N13, N14, N15, N16, N17, N18, N19, N20, N21, N22, N23, N24, N25, N26, N27, N28, N29, N30, N31, N32, N33, N34, N35, N36, N37, N38, N39, N40, N41, N42, N43, N45, N48, N57, N59, N88, N89, N97, N99, N120, N121, N122, N179, N200, N255, N300, N400, N880, N900, N999, N1019, N50000000, N100000000, N1000000000, N2147483647, N2147483648, c5, c6, b1, c8, f_X5_stepOver_108]
        · rw [← q2, f_X7_nextWhole_5]
          clear hB hW0
          simp (disch := omega) only [↓reduceIte, gd_t, bd_s, nm_W, nm_I, I_add, I_sub, I_mul, I_neg, I_le_t, I_le_f, I_lt_t, I_lt_f, I_eq_t, I_eq_f, I_inb', I_ix', Int.toNat_natCast, decide_true, decide_false, Bool.not_false, Bool.not_true, if_true, if_false, wi_eq, wi_eq', wi_ne, wi_row, wi_2, N0, N1, N2, N3, N4, N5, N6, N7, N8, N9, N10, N11, N12, N13, N14, N15, N16, N17, N18, N19, N20, N21, N22, N23, N24, N25, N26, N27, N28, N29, N30, N31, N32, N33, N34, N35, N36, N37, N38, N39, N40, N41, N42, N43, N45, N48, N57, N59, N88, N89, N97, N99, N120, N121, N122, N179, N200, N255, N300, N400, N880, N900, N999, N1019, N50000000, N100000000, N1000000000, N2147483647, N2147483648, e29, eb, i1, e31, f_X7_nextWhole_59]
      · obtain ⟨σ', τ', k, l, q1, q2, q3, q4, q5⟩ := num_ok r (cur + 1) n n' (wi (wi σ 1 9 (I (v * 10 + b - 48))) 1 6 (I ((cur : Int) + 1))) (wi (wi τ 102 32 (I (10 * v + b - 48))) 102 29 (I ((cur : Int) + 1))) (v * 10 + b - 48) (by omega) (by omega) (by omega) (BY_f hB (CGt CGw CGw) (RXt (RXw (by omega)) (RXw (by omega))))
          ⟨⟨by simp (disch := omega) only [wi_eq, wi_eq', wi_ne, wi_row, wi_2]; exact c5, by simp (disch := omega) only [wi_eq, wi_eq', wi_ne, wi_row, wi_2]; rfl, by simp (disch := omega) only [wi_eq, wi_eq', wi_ne, wi_row, wi_2]; exact c8, by simp (disch := omega) only [wi_eq, wi_eq', wi_ne, wi_row, wi_2]; exact c7, by simp (disch := omega) only [wi_eq, wi_eq', wi_ne, wi_row, wi_2], by simp (disch := omega) only [wi_eq, wi_eq', wi_ne, wi_row, wi_2]; exact c1⟩, ⟨by simp (disch := omega) only [wi_eq, wi_eq', wi_ne, wi_row, wi_2]; exact e28, by simp (disch := omega) only [wi_eq, wi_eq', wi_ne, wi_row, wi_2]; rfl, by simp (disch := omega) only [wi_eq, wi_eq', wi_ne, wi_row, wi_2]; exact e31, by simp (disch := omega) only [wi_eq, wi_eq', wi_ne, wi_row, wi_2]; exact e33, by simp (disch := omega) only [wi_eq, wi_eq', wi_ne, wi_row, wi_2]; rw [Int.mul_comm]⟩, by omega, by omega, by omega, by omega, by omega, by omega, by omega⟩
        refine ⟨σ', τ', k, l, ?_, ?_, q3, CFt (CFt CFw CFw) q4, RXt (RXt (RXw (by omega)) (RXw (by omega))) q5⟩
        · rw [← q1, f_X5_stepOver_34]
          clear hB hW0
          simp (disch := omega) only [↓reduceIte, gd_t, bd_s, nm_W, nm_I, I_add, I_sub, I_mul, I_neg, I_le_t, I_le_f, I_lt_t, I_lt_f, I_eq_t, I_eq_f, I_inb', I_ix', Int.toNat_natCast, decide_true, decide_false, Bool.not_false, Bool.not_true, if_true, if_false, wi_eq, wi_eq', wi_ne, wi_row, wi_2, N0, N1, N2, N3, N4, N5, N6, N7, N8, N9, N10, N11, N12, N13, N14, N15, N16, N17, N18, N19, N20, N21, N22, N23, N24, N25, N26, N27, N28, N29, N30, N31, N32, N33, N34, N35, N36, N37, N38, N39, N40, N41, N42, N43, N45, N48, N57, N59, N88, N89, N97, N99, N120, N121, N122, N179, N200, N255, N300, N400, N880, N900, N999, N1019, N50000000, N100000000, N1000000000, N2147483647, N2147483648, c5, c6, b1, c8, c9, f_X5_stepOver_108]
        · rw [← q2, f_X7_nextWhole_5]
          clear hB hW0
          simp (disch := omega) only [↓reduceIte, gd_t, bd_s, nm_W, nm_I, I_add, I_sub, I_mul, I_neg, I_le_t, I_le_f, I_lt_t, I_lt_f, I_eq_t, I_eq_f, I_inb', I_ix', Int.toNat_natCast, decide_true, decide_false, Bool.not_false, Bool.not_true, if_true, if_false, wi_eq, wi_eq', wi_ne, wi_row, wi_2, N0, N1, N2, N3, N4, N5, N6, N7, N8, N9, N10, N11, N12, N13, N14, N15, N16, N17, N18, N19, N20, N21, N22, N23, N24, N25, N26, N27, N28, N29, N30, N31, N32, N33, N34, N35, N36, N37, N38, N39, N40, N41, N42, N43, N45, N48, N57, N59, N88, N89, N97, N99, N120, N121, N122, N179, N200, N255, N300, N400, N880, N900, N999, N1019, N50000000, N100000000, N1000000000, N2147483647, N2147483648, e29, eb, i1, e31, e32, f_X7_nextWhole_59]
    · obtain ⟨σ', τ', k, l, q1, q2, q3⟩ := num_end (bt := bt) hN hW0
      have i0 := rIn0 (σ := τ) (z := b % 256) (lo := 48) (hi := 57) (by unfold R; omega) (by unfold R; omega) (by unfold R; omega) (by omega)
      have nle : ¬ σ.1 1 5 ≤ σ.1 1 6 := by rw [c5, c6, I_le (by unfold R; omega) (by unfold R; omega)]; omega
      have g1 : inb (σ.1 1 6) 900 = true := by rw [c6]; exact inI (by omega) (by decide)
      have g2 : ix (σ.1 1 6) = cur := by rw [c6]; exact ixI (by omega)
      refine ⟨σ', τ', k, l, ?_, ?_, q3⟩
      · rw [← q1, f_X5_stepOver_34]
        dsimp only
        rw [if_neg nle, g1, gd_t, g2, b1]
        by_cases cl : b < 48
        · rw [if_pos (show I b < I 48 by rw [I_lt (by unfold R; omega) (by unfold R; omega)]; exact cl)]
        · rw [if_neg (show ¬ I b < I 48 by rw [I_lt (by unfold R; omega) (by unfold R; omega)]; exact cl), gd_t, if_pos (show I 57 < I b by rw [I_lt (by unfold R; omega) (by unfold R; omega)]; omega)]
      · rw [← q2, f_X7_nextWhole_5]
        dsimp only
        rw [show f_X7_byteAt (τ.1 102 29) τ = some (I (b % 256), τ) by rw [e29]; exact eb, bd_s, show f_X7_in (I (b % 256)) (48 : Int32) (57 : Int32) τ = some (I 0, τ) from i0, bd_s, if_pos (show I 0 = (0 : Int32) from rfl)]
end
section
/-! PURE: the text: a step, in step; what the reference does once it has a fault; words -/
theorem tok_word {N nx : Nat} {bt : Nat → Int} {σ τ : Wd} (hB : BY σ τ N bt) (hS : ST σ τ N nx) (h : nx < N) (hb : 97 ≤ bt nx ∧ bt nx ≤ 122) : ∃ (σ' τ' : Wd) (k : Int) (l : List Int) (n : Int), f_X5_step_38 σ = some (0, σ') ∧ nxt τ = some (0, τ') ∧ TK σ' τ' N bt nx k l n ∧ CF σ σ' ∧ RX τ τ' := by
  obtain ⟨⟨c5, c6, c1⟩, e28, e29, e33, hn⟩ := hS
  have hN := hB.1
  obtain ⟨b1, b2, b3, b4⟩ := hB.2 nx h
  obtain ⟨b, hbb⟩ : ∃ b, b = bt nx := ⟨_, rfl⟩
  rw [← hbb] at b1 b2 b3 b4 hb
  have eb := rByte (τ := wi τ 102 31 (I (nx : Int))) hN (by rw [wi_ne (by decide)]; exact e28) h (by rw [wi_row (by decide)]; exact b2) b3 b4
  rw [show b % 256 = b by omega] at eb
  have i1 := rIn1 (σ := wi τ 102 31 (I (nx : Int))) (z := b) (lo := 97) (hi := 122) (by unfold R; omega) (by unfold R; omega) (by unfold R; omega) hb
  have es : f_X5_sortOf (I b) (wi (wi σ 1 8 (I (nx : Int))) 1 9 (I 0)) = some (I 1, wi (wi σ 1 8 (I (nx : Int))) 1 9 (I 0)) := by
    unfold f_X5_sortOf
    simp (disch := omega) only [↓reduceIte, gd_t, bd_s, nm_W, nm_I, I_add, I_sub, I_mul, I_neg, I_le_t, I_le_f, I_lt_t, I_lt_f, I_eq_t, I_eq_f, I_inb', I_ix', Int.toNat_natCast, decide_true, decide_false, Bool.not_false, Bool.not_true, if_true, if_false, wi_eq, wi_eq', wi_ne, wi_row, wi_2, N0, N1, N2, N3, N4, N5, N6, N7, N8, N9, N10, N11, N12, N13, N14, N15, N16, N17, N18, N19, N20, N21, N22, N23, N24, N25, N26, N27, N28, N29, N30, N31, N32, N33, N34, N35, N36, N37, N38, N39, N40, N41, N42, N43, N45, N48, N57, N59, N88, N89, N97, N99, N120, N121, N122, N179, N200, N255, N300, N400, N880, N900, N999, N1019, N50000000, N100000000, N1000000000, N2147483647, N2147483648]
  have w0 : WD bt nx nx = [] := by
    unfold WD
    rw [show min (nx - nx) 6 = 0 by omega]
    rfl
  obtain ⟨σ', τ', k, l, q1, q2, q3, q4, q5⟩ := word_ok (N - nx) nx FU FU (wi (wi (wi σ 1 8 (I (nx : Int))) 1 9 (I 0)) 1 7 (I 1)) (wl (wi τ 102 31 (I (nx : Int))) 102 34 0) (by omega) (by show _ < 6000; omega) (by show _ < 6000; omega) (BY_f hB (CGt CGw (CGt CGw CGw)) (RXt (RXw (by omega)) RXl))
    ⟨⟨by simp (disch := omega) only [wi_eq, wi_eq', wi_ne, wi_row, wi_2]; exact c5, by simp (disch := omega) only [wi_eq, wi_eq', wi_ne, wi_row, wi_2]; exact c6, by simp (disch := omega) only [wi_eq, wi_eq', wi_ne, wi_row, wi_2], by simp (disch := omega) only [wi_eq, wi_eq', wi_ne, wi_row, wi_2], by simp (disch := omega) only [wi_eq, wi_eq', wi_ne, wi_row, wi_2]; rw [w0]; rfl, by simp (disch := omega) only [wi_eq, wi_eq', wi_ne, wi_row, wi_2]; exact c1⟩, ⟨by rw [wl_1]; simp (disch := omega) only [wi_eq, wi_eq', wi_ne, wi_row, wi_2]; exact e28, by rw [wl_1]; simp (disch := omega) only [wi_eq, wi_eq', wi_ne, wi_row, wi_2]; exact e29, by rw [wl_1]; simp (disch := omega) only [wi_eq, wi_eq', wi_ne, wi_row, wi_2], by rw [wl_1]; simp (disch := omega) only [wi_eq, wi_eq', wi_ne, wi_row, wi_2]; exact e33, by rw [wl_eq, w0]; rfl⟩, Nat.le_refl _, hn, fun i hi => absurd hi (by omega)⟩
  refine ⟨σ', τ', k, l, 0, ?_, ?_, q3, CFt (CFt CFw (CFt CFw CFw)) q4, RXt (RXt (RXw (by omega)) RXl) q5⟩
  · unfold f_X5_step_38 f_X5_step_79 f_X5_step_140
    simp (disch := omega) only [↓reduceIte, gd_t, bd_s, nm_W, nm_I, I_add, I_sub, I_mul, I_neg, I_le_t, I_le_f, I_lt_t, I_lt_f, I_eq_t, I_eq_f, I_inb', I_ix', Int.toNat_natCast, decide_true, decide_false, Bool.not_false, Bool.not_true, if_true, if_false, wi_eq, wi_eq', wi_ne, wi_row, wi_2, N0, N1, N2, N3, N4, N5, N6, N7, N8, N9, N10, N11, N12, N13, N14, N15, N16, N17, N18, N19, N20, N21, N22, N23, N24, N25, N26, N27, N28, N29, N30, N31, N32, N33, N34, N35, N36, N37, N38, N39, N40, N41, N42, N43, N45, N48, N57, N59, N88, N89, N97, N99, N120, N121, N122, N179, N200, N255, N300, N400, N880, N900, N999, N1019, N50000000, N100000000, N1000000000, N2147483647, N2147483648, c5, c6, b1, es, f_X5_stepOver, f_X5_stepOver_15, f_X5_stepOver_32]
    rw [show (97 : Int) - 1 = 96 from rfl, q1, bd_s]
  · rw [nxt_1 e29 eb (by omega), i1, bd_s, if_neg (show ¬ I 1 = (0 : Int32) by decide)]
    unfold f_X7_nextWord
    rw [nm_W, q2, bd_s]
    rfl
theorem tok_num {N nx : Nat} {bt : Nat → Int} {σ τ : Wd} (hB : BY σ τ N bt) (hS : ST σ τ N nx) (h : nx < N) (hb : 48 ≤ bt nx ∧ bt nx ≤ 57) : ∃ (σ' τ' : Wd) (k : Int) (l : List Int) (n : Int), f_X5_step_38 σ = some (0, σ') ∧ nxt τ = some (0, τ') ∧ TK σ' τ' N bt nx k l n ∧ CF σ σ' ∧ RX τ τ' := by
  obtain ⟨⟨c5, c6, c1⟩, e28, e29, e33, hn⟩ := hS
  have hN := hB.1
  obtain ⟨b1, b2, b3, b4⟩ := hB.2 nx h
  obtain ⟨b, hbb⟩ : ∃ b, b = bt nx := ⟨_, rfl⟩
  rw [← hbb] at b1 b2 b3 b4 hb
  have eb := rByte (τ := wi τ 102 31 (I (nx : Int))) hN (by rw [wi_ne (by decide)]; exact e28) h (by rw [wi_row (by decide)]; exact b2) b3 b4
  rw [show b % 256 = b by omega] at eb
  have i1 := rIn0 (σ := wi τ 102 31 (I (nx : Int))) (z := b) (lo := 97) (hi := 122) (by unfold R; omega) (by unfold R; omega) (by unfold R; omega) (by omega)
  have i2 := rIn1 (σ := wi τ 102 31 (I (nx : Int))) (z := b) (lo := 48) (hi := 57) (by unfold R; omega) (by unfold R; omega) (by unfold R; omega) hb
  have es : f_X5_sortOf (I b) (wi (wi σ 1 8 (I (nx : Int))) 1 9 (I 0)) = some (I 2, wi (wi σ 1 8 (I (nx : Int))) 1 9 (I 0)) := by
    unfold f_X5_sortOf f_X5_sortOf_14
    simp (disch := omega) only [↓reduceIte, gd_t, bd_s, nm_W, nm_I, I_add, I_sub, I_mul, I_neg, I_le_t, I_le_f, I_lt_t, I_lt_f, I_eq_t, I_eq_f, I_inb', I_ix', Int.toNat_natCast, decide_true, decide_false, Bool.not_false, Bool.not_true, if_true, if_false, wi_eq, wi_eq', wi_ne, wi_row, wi_2, N0, N1, N2, N3, N4, N5, N6, N7, N8, N9, N10, N11, N12, N13, N14, N15, N16, N17, N18, N19, N20, N21, N22, N23, N24, N25, N26, N27, N28, N29, N30, N31, N32, N33, N34, N35, N36, N37, N38, N39, N40, N41, N42, N43, N45, N48, N57, N59, N88, N89, N97, N99, N120, N121, N122, N179, N200, N255, N300, N400, N880, N900, N999, N1019, N50000000, N100000000, N1000000000, N2147483647, N2147483648]
  obtain ⟨σ', τ', k, n, q1, q2, q3, q4, q5⟩ := num_ok (bt := bt) (N - nx) nx FU FU (wi (wi (wi σ 1 8 (I (nx : Int))) 1 9 (I 0)) 1 7 (I 2)) (wi (wi τ 102 31 (I (nx : Int))) 102 32 (I 0)) 0 (by omega) (by show _ < 6000; omega) (by show _ < 6000; omega) (BY_f hB (CGt CGw (CGt CGw CGw)) (RXt (RXw (by omega)) (RXw (by omega))))
    ⟨⟨by simp (disch := omega) only [wi_eq, wi_eq', wi_ne, wi_row, wi_2]; exact c5, by simp (disch := omega) only [wi_eq, wi_eq', wi_ne, wi_row, wi_2]; exact c6, by simp (disch := omega) only [wi_eq, wi_eq', wi_ne, wi_row, wi_2], by simp (disch := omega) only [wi_eq, wi_eq', wi_ne, wi_row, wi_2], by simp (disch := omega) only [wi_eq, wi_eq', wi_ne, wi_row, wi_2], by simp (disch := omega) only [wi_eq, wi_eq', wi_ne, wi_row, wi_2]; exact c1⟩, ⟨by simp (disch := omega) only [wi_eq, wi_eq', wi_ne, wi_row, wi_2]; exact e28, by simp (disch := omega) only [wi_eq, wi_eq', wi_ne, wi_row, wi_2]; exact e29, by simp (disch := omega) only [wi_eq, wi_eq', wi_ne, wi_row, wi_2], by simp (disch := omega) only [wi_eq, wi_eq', wi_ne, wi_row, wi_2]; exact e33, by simp (disch := omega) only [wi_eq, wi_eq', wi_ne, wi_row, wi_2]⟩, Nat.le_refl _, hn, by omega, by omega, by omega, by omega, by omega⟩
  refine ⟨σ', τ', k, [], n, ?_, ?_, q3, CFt (CFt CFw (CFt CFw CFw)) q4, RXt (RXt (RXw (by omega)) (RXw (by omega))) q5⟩
  · unfold f_X5_step_38 f_X5_step_79 f_X5_step_140
    simp (disch := omega) only [↓reduceIte, gd_t, bd_s, nm_W, nm_I, I_add, I_sub, I_mul, I_neg, I_le_t, I_le_f, I_lt_t, I_lt_f, I_eq_t, I_eq_f, I_inb', I_ix', Int.toNat_natCast, decide_true, decide_false, Bool.not_false, Bool.not_true, if_true, if_false, wi_eq, wi_eq', wi_ne, wi_row, wi_2, N0, N1, N2, N3, N4, N5, N6, N7, N8, N9, N10, N11, N12, N13, N14, N15, N16, N17, N18, N19, N20, N21, N22, N23, N24, N25, N26, N27, N28, N29, N30, N31, N32, N33, N34, N35, N36, N37, N38, N39, N40, N41, N42, N43, N45, N48, N57, N59, N88, N89, N97, N99, N120, N121, N122, N179, N200, N255, N300, N400, N880, N900, N999, N1019, N50000000, N100000000, N1000000000, N2147483647, N2147483648, c5, c6, b1, es, f_X5_stepOver, f_X5_stepOver_15, f_X5_stepOver_32, q1]
  · rw [nxt_1 e29 eb (by omega), i1, bd_s, if_pos (show I 0 = (0 : Int32) from rfl), i2, bd_s, if_neg (show ¬ I 1 = (0 : Int32) by decide)]
    unfold f_X7_nextWhole
    rw [nm_W, show wi (wi τ 102 31 (I (nx : Int))) 102 32 (0 : Int32) = wi (wi τ 102 31 (I (nx : Int))) 102 32 (I 0) from rfl, q2, bd_s]
    rfl
theorem step0_ok {N nx : Nat} {bt : Nat → Int} {σ τ : Wd} (hB : BY σ τ N bt) (hS : ST σ τ N nx) : ∃ (σ' τ' : Wd) (pl : Nat) (k : Int) (l : List Int) (n : Int), f_X5_step σ = some (0, σ') ∧ f_X7_next τ = some (0, τ') ∧ TK σ' τ' N bt pl k l n ∧ nx ≤ pl ∧ CF σ σ' ∧ RX τ τ' := by
  have hN := hB.1
  have h33 := hS.2.2.2.1
  have hn := hS.2.2.2.2
  obtain ⟨σ1, τ1, nx', q1, q2, q3, q4, q5, q6, q7⟩ := skip_ok (N - nx) nx FU σ τ (by omega) (by show _ < 6000; omega) hB hS
  have hB1 := BY_f hB (CFG q6) q7
  have key : ∃ (σ' τ' : Wd) (k : Int) (l : List Int) (n : Int), f_X5_step_38 σ1 = some (0, σ') ∧ nxt τ1 = some (0, τ') ∧ TK σ' τ' N bt nx' k l n ∧ CF σ1 σ' ∧ RX τ1 τ' := by
    by_cases c0 : nx' = N
    · exact tok_fin hB1 q3 c0
    · have lt : nx' < N := by have := q3.2.2.2.2; omega
      by_cases c1 : 97 ≤ bt nx' ∧ bt nx' ≤ 122
      · exact tok_word hB1 q3 lt c1
      · by_cases c2 : 48 ≤ bt nx' ∧ bt nx' ≤ 57
        · exact tok_num hB1 q3 lt c2
        · by_cases c3 : bt nx' = 59
          · exact tok_sgn (k := 3) hB1 q3 lt c3 (Or.inl ⟨rfl, rfl⟩)
          · by_cases c4 : bt nx' = 45
            · exact tok_sgn (k := 4) hB1 q3 lt c4 (Or.inr ⟨rfl, rfl⟩)
            · exact tok_bad hB1 q3 lt ⟨c1, c2, c3, c4⟩
  obtain ⟨σ', τ', k, l, n, k1, k2, k3, k4, k5⟩ := key
  refine ⟨σ', τ', nx', k, l, n, ?_, ?_, k3, q1, CFt q6 k4, RXt q7 k5⟩
  · unfold f_X5_step
    rw [q4, k1]
  · unfold f_X7_next
    rw [if_pos (by rw [h33]; exact Int32.le_refl _), q5, k2]
theorem step_ok {N pl : Nat} {bt : Nat → Int} {σ τ : Wd} {k n : Int} {l : List Int} (hB : BY σ τ N bt) (hT : TK σ τ N bt pl k l n) (hk : k ≠ 5) : ∃ (σ' τ' : Wd) (pl' : Nat) (k' : Int) (l' : List Int) (n' : Int), f_X5_step σ = some (0, σ') ∧ f_X7_next τ = some (0, τ') ∧ TK σ' τ' N bt pl' k' l' n' ∧ (pl ≤ pl' ∧ (k = 3 → pl + 1 ≤ pl')) ∧ CF σ σ' ∧ RX τ τ' := by
  obtain ⟨nx, ⟨n1, n2, n3⟩, ⟨c5, c6, c7, c8, c1⟩, ⟨e28, e31, e33, e29⟩, -⟩ := hT
  obtain ⟨σ', τ', pl', k', l', n', q1, q2, q3, q4, q5⟩ := step0_ok hB ⟨⟨c5, c6, c1⟩, e28, e29 hk, e33, n2⟩
  exact ⟨σ', τ', pl', k', l', n', q1, q2, q3, ⟨by omega, fun q => by have := n3 q; omega⟩, q5⟩
/-! the reference with a fault -/
theorem wi_self {σ : Wd} {k j : Nat} {x : Int32} (h : σ.1 k j = x) : wi σ k j x = σ := by
  refine Prod.ext (funext fun a => funext fun i => ?_) rfl
  by_cases c : a = k
  · rw [c]
    by_cases e : i = j
    · rw [e, wi_eq, h]
    · rw [wi_ne e]
  · rw [wi_row c]
def FT (τ : Wd) (f : Int) (pl : Nat) : Prop := τ.1 102 33 = I f ∧ 1 ≤ f ∧ f ≤ 6 ∧ τ.1 102 30 = I 0 ∧ τ.1 102 31 = I (pl : Int)
section FAULT
variable {τ : Wd} {f : Int} {pl : Nat}
theorem ft_flaw {c : Int32} (h : FT τ f pl) : f_X7_flaw c τ = some (0, τ) := by
  obtain ⟨h1, h2, h3, h4, h5⟩ := h
  unfold f_X7_flaw f_X7_flaw_12
  simp (disch := omega) only [↓reduceIte, gd_t, bd_s, nm_W, nm_I, I_add, I_sub, I_mul, I_neg, I_le_t, I_le_f, I_lt_t, I_lt_f, I_eq_t, I_eq_f, I_inb', I_ix', Int.toNat_natCast, decide_true, decide_false, Bool.not_false, Bool.not_true, if_true, if_false, wi_eq, wi_eq', wi_ne, wi_row, wi_2, N0, N1, N2, N3, N4, N5, N6, N7, N8, N9, N10, N11, N12, N13, N14, N15, N16, N17, N18, N19, N20, N21, N22, N23, N24, N25, N26, N27, N28, N29, N30, N31, N32, N33, N34, N35, N36, N37, N38, N39, N40, N41, N42, N43, N45, N48, N57, N59, N88, N89, N97, N99, N120, N121, N122, N179, N200, N255, N300, N400, N880, N900, N999, N1019, N50000000, N100000000, N1000000000, N2147483647, N2147483648, h1]
  rw [wi_self h4]
theorem ft_next (h : FT τ f pl) : f_X7_next τ = some (0, τ) := by
  obtain ⟨h1, h2, h3, h4, h5⟩ := h
  unfold f_X7_next
  simp (disch := omega) only [↓reduceIte, gd_t, bd_s, nm_W, nm_I, I_add, I_sub, I_mul, I_neg, I_le_t, I_le_f, I_lt_t, I_lt_f, I_eq_t, I_eq_f, I_inb', I_ix', Int.toNat_natCast, decide_true, decide_false, Bool.not_false, Bool.not_true, if_true, if_false, wi_eq, wi_eq', wi_ne, wi_row, wi_2, N0, N1, N2, N3, N4, N5, N6, N7, N8, N9, N10, N11, N12, N13, N14, N15, N16, N17, N18, N19, N20, N21, N22, N23, N24, N25, N26, N27, N28, N29, N30, N31, N32, N33, N34, N35, N36, N37, N38, N39, N40, N41, N42, N43, N45, N48, N57, N59, N88, N89, N97, N99, N120, N121, N122, N179, N200, N255, N300, N400, N880, N900, N999, N1019, N50000000, N100000000, N1000000000, N2147483647, N2147483648, h1]
theorem ft_whole {lo hi : Int32} (h : FT τ f pl) : f_X7_readWhole lo hi τ = some (lo, τ) := by
  have e1 := ft_flaw (c := I 1) h
  have e2 := ft_next h
  obtain ⟨h1, h2, h3, h4, h5⟩ := h
  unfold f_X7_readWhole f_X7_readWhole_33 f_X7_readWhole_54
  simp (disch := omega) only [↓reduceIte, gd_t, bd_s, nm_W, nm_I, I_add, I_sub, I_mul, I_neg, I_le_t, I_le_f, I_lt_t, I_lt_f, I_eq_t, I_eq_f, I_inb', I_ix', Int.toNat_natCast, decide_true, decide_false, Bool.not_false, Bool.not_true, if_true, if_false, wi_eq, wi_eq', wi_ne, wi_row, wi_2, N0, N1, N2, N3, N4, N5, N6, N7, N8, N9, N10, N11, N12, N13, N14, N15, N16, N17, N18, N19, N20, N21, N22, N23, N24, N25, N26, N27, N28, N29, N30, N31, N32, N33, N34, N35, N36, N37, N38, N39, N40, N41, N42, N43, N45, N48, N57, N59, N88, N89, N97, N99, N120, N121, N122, N179, N200, N255, N300, N400, N880, N900, N999, N1019, N50000000, N100000000, N1000000000, N2147483647, N2147483648, h4, e1, e2, h1]
theorem rW0 {w : Nat} {kd : Int} (hk : τ.1 102 30 = I kd) (k0 : 0 ≤ kd ∧ kd ≤ 4) (k2 : kd ≠ 2) {L : Nat} (hL : txL.getD w 0 = L) (L5 : L ≤ 5) : ∀ (r i n : Nat) (x : Int64) (z : Int), z = (i : Int) → i + r = L → r < n → f_X7_isWord_5 w n x (I z) τ = some (I 0, τ)
  | 0, i, n + 1, x, z, hz, hi, _ => by
    have eL : nI L = I (L : Int) := (I_nat L).symm
    rw [f_X7_isWord_5]
    unfold f_X7_isWord_54 f_X7_isWord_55
    rw [hL, eL]
    simp (disch := omega) only [↓reduceIte, gd_t, bd_s, nm_W, nm_I, I_add, I_sub, I_mul, I_neg, I_le_t, I_le_f, I_lt_t, I_lt_f, I_eq_t, I_eq_f, I_inb', I_ix', Int.toNat_natCast, decide_true, decide_false, Bool.not_false, Bool.not_true, if_true, if_false, wi_eq, wi_eq', wi_ne, wi_row, wi_2, N0, N1, N2, N3, N4, N5, N6, N7, N8, N9, N10, N11, N12, N13, N14, N15, N16, N17, N18, N19, N20, N21, N22, N23, N24, N25, N26, N27, N28, N29, N30, N31, N32, N33, N34, N35, N36, N37, N38, N39, N40, N41, N42, N43, N45, N48, N57, N59, N88, N89, N97, N99, N120, N121, N122, N179, N200, N255, N300, N400, N880, N900, N999, N1019, N50000000, N100000000, N1000000000, N2147483647, N2147483648, hk, isb_0]
  | r + 1, i, n + 1, x, z, hz, hi, hn => by
    have eL : nI L = I (L : Int) := (I_nat L).symm
    have ih := fun x => rW0 (w := w) hk k0 k2 hL L5 r (i + 1) n x (z + 1) (by omega) (by omega) (by omega)
    rw [f_X7_isWord_5]
    rw [hL, eL]
    simp (disch := omega) only [↓reduceIte, gd_t, bd_s, nm_W, nm_I, I_add, I_sub, I_mul, I_neg, I_le_t, I_le_f, I_lt_t, I_lt_f, I_eq_t, I_eq_f, I_inb', I_ix', Int.toNat_natCast, decide_true, decide_false, Bool.not_false, Bool.not_true, if_true, if_false, wi_eq, wi_eq', wi_ne, wi_row, wi_2, N0, N1, N2, N3, N4, N5, N6, N7, N8, N9, N10, N11, N12, N13, N14, N15, N16, N17, N18, N19, N20, N21, N22, N23, N24, N25, N26, N27, N28, N29, N30, N31, N32, N33, N34, N35, N36, N37, N38, N39, N40, N41, N42, N43, N45, N48, N57, N59, N88, N89, N97, N99, N120, N121, N122, N179, N200, N255, N300, N400, N880, N900, N999, N1019, N50000000, N100000000, N1000000000, N2147483647, N2147483648, ih]
theorem txL5 (w : Nat) (hw : w < 13) : txL.getD w 0 ≤ 5 := (show ∀ w : Fin 13, txL.getD w.val 0 ≤ 5 by decide) ⟨w, hw⟩
theorem rWord0 {w : Nat} {kd : Int} (hw : w < 13) (hk : τ.1 102 30 = I kd) (k0 : 0 ≤ kd ∧ kd ≤ 4) (k2 : kd ≠ 2) : f_X7_isWord w τ = some (I 0, τ) :=
  rW0 hk k0 k2 rfl (txL5 w hw) (txL.getD w 0) 0 FU 0 0 rfl (by omega) (by have := txL5 w hw; show _ < 6000; omega)
theorem ft_word {w : Nat} (hw : w < 13) (h : FT τ f pl) : f_X7_isWord w τ = some (I 0, τ) := rWord0 hw h.2.2.2.1 (by omega) (by omega)
theorem ft_part {w : Nat} {lo hi : Int32} (hw : w < 13) (h : FT τ f pl) : f_X7_readPart w lo hi τ = some (lo, τ) := by
  have e0 := ft_word hw h
  have e1 := ft_flaw (c := I 1) h
  have e2 := ft_next h
  have e3 := ft_whole (lo := lo) (hi := hi) h
  unfold f_X7_readPart f_X7_readPart_13
  simp (disch := omega) only [↓reduceIte, gd_t, bd_s, nm_W, nm_I, I_add, I_sub, I_mul, I_neg, I_le_t, I_le_f, I_lt_t, I_lt_f, I_eq_t, I_eq_f, I_inb', I_ix', Int.toNat_natCast, decide_true, decide_false, Bool.not_false, Bool.not_true, if_true, if_false, wi_eq, wi_eq', wi_ne, wi_row, wi_2, N0, N1, N2, N3, N4, N5, N6, N7, N8, N9, N10, N11, N12, N13, N14, N15, N16, N17, N18, N19, N20, N21, N22, N23, N24, N25, N26, N27, N28, N29, N30, N31, N32, N33, N34, N35, N36, N37, N38, N39, N40, N41, N42, N43, N45, N48, N57, N59, N88, N89, N97, N99, N120, N121, N122, N179, N200, N255, N300, N400, N880, N900, N999, N1019, N50000000, N100000000, N1000000000, N2147483647, N2147483648, e0, e1, e2, e3]
theorem ft_name (h : FT τ f pl) : f_X7_isName τ = some (I 0, τ) := by
  have h4 := h.2.2.2.1
  unfold f_X7_isName f_X7_isName_48 f_X7_isName_49
  simp (disch := omega) only [↓reduceIte, gd_t, bd_s, nm_W, nm_I, I_add, I_sub, I_mul, I_neg, I_le_t, I_le_f, I_lt_t, I_lt_f, I_eq_t, I_eq_f, I_inb', I_ix', Int.toNat_natCast, decide_true, decide_false, Bool.not_false, Bool.not_true, if_true, if_false, wi_eq, wi_eq', wi_ne, wi_row, wi_2, N0, N1, N2, N3, N4, N5, N6, N7, N8, N9, N10, N11, N12, N13, N14, N15, N16, N17, N18, N19, N20, N21, N22, N23, N24, N25, N26, N27, N28, N29, N30, N31, N32, N33, N34, N35, N36, N37, N38, N39, N40, N41, N42, N43, N45, N48, N57, N59, N88, N89, N97, N99, N120, N121, N122, N179, N200, N255, N300, N400, N880, N900, N999, N1019, N50000000, N100000000, N1000000000, N2147483647, N2147483648, h4, isb_0]
theorem ft_known (h : FT τ f pl) : f_X7_knownVenue τ = some (I 0, τ) := by
  have e0 := ft_name h
  have e1 := ft_flaw (c := I 1) h
  have e2 := ft_flaw (c := I 2) h
  obtain ⟨h1, h2, h3, h4, h5⟩ := h
  unfold f_X7_knownVenue f_X7_knownVenue_12 f_X7_knownVenue_27 f_X7_knownVenue_38 f_X7_knownVenue_50
  simp (disch := omega) only [↓reduceIte, gd_t, bd_s, nm_W, nm_I, I_add, I_sub, I_mul, I_neg, I_le_t, I_le_f, I_lt_t, I_lt_f, I_eq_t, I_eq_f, I_inb', I_ix', Int.toNat_natCast, decide_true, decide_false, Bool.not_false, Bool.not_true, if_true, if_false, wi_eq, wi_eq', wi_ne, wi_row, wi_2, N0, N1, N2, N3, N4, N5, N6, N7, N8, N9, N10, N11, N12, N13, N14, N15, N16, N17, N18, N19, N20, N21, N22, N23, N24, N25, N26, N27, N28, N29, N30, N31, N32, N33, N34, N35, N36, N37, N38, N39, N40, N41, N42, N43, N45, N48, N57, N59, N88, N89, N97, N99, N120, N121, N122, N179, N200, N255, N300, N400, N880, N900, N999, N1019, N50000000, N100000000, N1000000000, N2147483647, N2147483648, e0, e1, e2, h1]
theorem ft_kind (h : FT τ f pl) : f_X7_readKind τ = some (I (-1), τ) := by
  have e6 := ft_word (w := 6) (by decide) h
  have e7 := ft_word (w := 7) (by decide) h
  have e8 := ft_word (w := 8) (by decide) h
  have e1 := ft_flaw (c := I 1) h
  have e2 := ft_next h
  unfold f_X7_readKind f_X7_readKind_40 f_X7_readKind_51
  simp (disch := omega) only [↓reduceIte, gd_t, bd_s, nm_W, nm_I, I_add, I_sub, I_mul, I_neg, I_le_t, I_le_f, I_lt_t, I_lt_f, I_eq_t, I_eq_f, I_inb', I_ix', Int.toNat_natCast, decide_true, decide_false, Bool.not_false, Bool.not_true, if_true, if_false, wi_eq, wi_eq', wi_ne, wi_row, wi_2, N0, N1, N2, N3, N4, N5, N6, N7, N8, N9, N10, N11, N12, N13, N14, N15, N16, N17, N18, N19, N20, N21, N22, N23, N24, N25, N26, N27, N28, N29, N30, N31, N32, N33, N34, N35, N36, N37, N38, N39, N40, N41, N42, N43, N45, N48, N57, N59, N88, N89, N97, N99, N120, N121, N122, N179, N200, N255, N300, N400, N880, N900, N999, N1019, N50000000, N100000000, N1000000000, N2147483647, N2147483648, e6, e7, e8, e1, e2]
theorem ft_sign {c : Int32} (h : FT τ f pl) : f_X7_isSign c τ = some (I 0, τ) := by
  have h4 := h.2.2.2.1
  unfold f_X7_isSign f_X7_isSign_20 f_X7_isSign_21
  simp (disch := omega) only [↓reduceIte, gd_t, bd_s, nm_W, nm_I, I_add, I_sub, I_mul, I_neg, I_le_t, I_le_f, I_lt_t, I_lt_f, I_eq_t, I_eq_f, I_inb', I_ix', Int.toNat_natCast, decide_true, decide_false, Bool.not_false, Bool.not_true, if_true, if_false, wi_eq, wi_eq', wi_ne, wi_row, wi_2, N0, N1, N2, N3, N4, N5, N6, N7, N8, N9, N10, N11, N12, N13, N14, N15, N16, N17, N18, N19, N20, N21, N22, N23, N24, N25, N26, N27, N28, N29, N30, N31, N32, N33, N34, N35, N36, N37, N38, N39, N40, N41, N42, N43, N45, N48, N57, N59, N88, N89, N97, N99, N120, N121, N122, N179, N200, N255, N300, N400, N880, N900, N999, N1019, N50000000, N100000000, N1000000000, N2147483647, N2147483648, h4, isb_0]
theorem ft_fee (h : FT τ f pl) : f_X7_readFeeOf τ = some (I 0, τ) := by
  have e0 := ft_word (w := 10) (by decide) h
  have e1 := ft_flaw (c := I 1) h
  have e2 := ft_next h
  have e3 := ft_sign (c := I 45) h
  have e4 := ft_whole (lo := I 0) (hi := I 9) h
  unfold f_X7_readFeeOf f_X7_readFeeOf_14 f_X7_readFeeOf_33 f_X7_readFeeOf_51
  simp (disch := omega) only [↓reduceIte, gd_t, bd_s, nm_W, nm_I, I_add, I_sub, I_mul, I_neg, I_le_t, I_le_f, I_lt_t, I_lt_f, I_eq_t, I_eq_f, I_inb', I_ix', Int.toNat_natCast, decide_true, decide_false, Bool.not_false, Bool.not_true, if_true, if_false, wi_eq, wi_eq', wi_ne, wi_row, wi_2, N0, N1, N2, N3, N4, N5, N6, N7, N8, N9, N10, N11, N12, N13, N14, N15, N16, N17, N18, N19, N20, N21, N22, N23, N24, N25, N26, N27, N28, N29, N30, N31, N32, N33, N34, N35, N36, N37, N38, N39, N40, N41, N42, N43, N45, N48, N57, N59, N88, N89, N97, N99, N120, N121, N122, N179, N200, N255, N300, N400, N880, N900, N999, N1019, N50000000, N100000000, N1000000000, N2147483647, N2147483648, e0, e1, e2, e3, e4]
theorem ft_begins {c : Int32} (h : FT τ f pl) : f_X7_begins c τ = some (0, τ) := by
  have e5 := ft_flaw (c := I 5) h
  have e6 := ft_flaw (c := I 6) h
  have e2 := ft_next h
  have e9 : f_X7_begins_9 τ = some (0, τ) := by
    unfold f_X7_begins_9 f_X7_begins_22
    by_cases c : τ.1 102 16 = (0 : Int32)
    · rw [if_pos c]
      simp (disch := omega) only [↓reduceIte, gd_t, bd_s, nm_W, nm_I, I_add, I_sub, I_mul, I_neg, I_le_t, I_le_f, I_lt_t, I_lt_f, I_eq_t, I_eq_f, I_inb', I_ix', Int.toNat_natCast, decide_true, decide_false, Bool.not_false, Bool.not_true, if_true, if_false, wi_eq, wi_eq', wi_ne, wi_row, wi_2, N0, N1, N2, N3, N4, N5, N6, N7, N8, N9, N10, N11, N12, N13, N14, N15, N16, N17, N18, N19, N20, N21, N22, N23, N24, N25, N26, N27, N28, N29, N30, N31, N32, N33, N34, N35, N36, N37, N38, N39, N40, N41, N42, N43, N45, N48, N57, N59, N88, N89, N97, N99, N120, N121, N122, N179, N200, N255, N300, N400, N880, N900, N999, N1019, N50000000, N100000000, N1000000000, N2147483647, N2147483648, e6, e2]
    · rw [if_neg c]
      simp (disch := omega) only [↓reduceIte, gd_t, bd_s, nm_W, nm_I, I_add, I_sub, I_mul, I_neg, I_le_t, I_le_f, I_lt_t, I_lt_f, I_eq_t, I_eq_f, I_inb', I_ix', Int.toNat_natCast, decide_true, decide_false, Bool.not_false, Bool.not_true, if_true, if_false, wi_eq, wi_eq', wi_ne, wi_row, wi_2, N0, N1, N2, N3, N4, N5, N6, N7, N8, N9, N10, N11, N12, N13, N14, N15, N16, N17, N18, N19, N20, N21, N22, N23, N24, N25, N26, N27, N28, N29, N30, N31, N32, N33, N34, N35, N36, N37, N38, N39, N40, N41, N42, N43, N45, N48, N57, N59, N88, N89, N97, N99, N120, N121, N122, N179, N200, N255, N300, N400, N880, N900, N999, N1019, N50000000, N100000000, N1000000000, N2147483647, N2147483648, e2]
  unfold f_X7_begins
  by_cases q : c = 0
  · rw [if_pos q, e9]
  · rw [if_neg q]
    simp (disch := omega) only [↓reduceIte, gd_t, bd_s, nm_W, nm_I, I_add, I_sub, I_mul, I_neg, I_le_t, I_le_f, I_lt_t, I_lt_f, I_eq_t, I_eq_f, I_inb', I_ix', Int.toNat_natCast, decide_true, decide_false, Bool.not_false, Bool.not_true, if_true, if_false, wi_eq, wi_eq', wi_ne, wi_row, wi_2, N0, N1, N2, N3, N4, N5, N6, N7, N8, N9, N10, N11, N12, N13, N14, N15, N16, N17, N18, N19, N20, N21, N22, N23, N24, N25, N26, N27, N28, N29, N30, N31, N32, N33, N34, N35, N36, N37, N38, N39, N40, N41, N42, N43, N45, N48, N57, N59, N88, N89, N97, N99, N120, N121, N122, N179, N200, N255, N300, N400, N880, N900, N999, N1019, N50000000, N100000000, N1000000000, N2147483647, N2147483648, e5]
    exact e9
end FAULT
end
section
/-! PURE: the text: is it this word; a fault; a number; a name -/
def lw (w : Nat) : List Int := rl (fun i => (tch w (I (i : Int))).toInt) (txL.getD w 0)
theorem tw_ltr {w i : Nat} (hw : w < 13) (hi : i < txL.getD w 0) : 97 ≤ (tch w (I (i : Int))).toInt ∧ (tch w (I (i : Int))).toInt ≤ 122 := by
  have key : ∀ w : Fin 13, ∀ i : Fin 5, i.val < txL.getD w.val 0 → 97 ≤ (tch w.val (I (i.val : Int))).toInt ∧ (tch w.val (I (i.val : Int))).toInt ≤ 122 := by decide +kernel
  have h5 := txL5 w hw
  exact key ⟨w, hw⟩ ⟨i, by omega⟩ hi
theorem lw_ltr {w : Nat} (hw : w < 13) : ltr (lw w) := rl_ltr _ (fun i hi => tw_ltr hw hi)
theorem lw_len {w : Nat} (hw : w < 13) : (lw w).length ≤ 6 := by
  unfold lw
  rw [rl_len]
  have := txL5 w hw
  omega
theorem rW2 {τ : Wd} {w : Nat} (hk : τ.1 102 30 = I 2) {L : Nat} (hL : txL.getD w 0 = L) (L5 : L ≤ 5) : ∀ (r i n : Nat) (z : Int), z = (i : Int) → i + r = L → r < n →
    f_X7_isWord_5 w n (w64 (rl (fun i => (tch w (I (i : Int))).toInt) i)) (I z) τ = some (I (bn (decide (τ.2.1 102 34 = w64 (lw w)))), τ)
  | 0, i, n + 1, z, hz, hi, _ => by
    have eL : nI L = I (L : Int) := (I_nat L).symm
    have el : rl (fun i => (tch w (I (i : Int))).toInt) i = lw w := by
      unfold lw
      rw [hL, show i = L by omega]
    rw [el, f_X7_isWord_5]
    unfold f_X7_isWord_54 f_X7_isWord_55
    rw [hL, eL]
    by_cases c : τ.2.1 102 34 = w64 (lw w)
    · rw [decide_eq_true c, bn_t]
      simp (disch := omega) only [↓reduceIte, gd_t, bd_s, nm_W, nm_I, I_add, I_sub, I_mul, I_neg, I_le_t, I_le_f, I_lt_t, I_lt_f, I_eq_t, I_eq_f, I_inb', I_ix', Int.toNat_natCast, decide_true, decide_false, Bool.not_false, Bool.not_true, if_true, if_false, wi_eq, wi_eq', wi_ne, wi_row, wi_2, N0, N1, N2, N3, N4, N5, N6, N7, N8, N9, N10, N11, N12, N13, N14, N15, N16, N17, N18, N19, N20, N21, N22, N23, N24, N25, N26, N27, N28, N29, N30, N31, N32, N33, N34, N35, N36, N37, N38, N39, N40, N41, N42, N43, N45, N48, N57, N59, N88, N89, N97, N99, N120, N121, N122, N179, N200, N255, N300, N400, N880, N900, N999, N1019, N50000000, N100000000, N1000000000, N2147483647, N2147483648, hk, lg_0, c, isb_1]
    · rw [decide_eq_false c, bn_f]
      simp (disch := omega) only [↓reduceIte, gd_t, bd_s, nm_W, nm_I, I_add, I_sub, I_mul, I_neg, I_le_t, I_le_f, I_lt_t, I_lt_f, I_eq_t, I_eq_f, I_inb', I_ix', Int.toNat_natCast, decide_true, decide_false, Bool.not_false, Bool.not_true, if_true, if_false, wi_eq, wi_eq', wi_ne, wi_row, wi_2, N0, N1, N2, N3, N4, N5, N6, N7, N8, N9, N10, N11, N12, N13, N14, N15, N16, N17, N18, N19, N20, N21, N22, N23, N24, N25, N26, N27, N28, N29, N30, N31, N32, N33, N34, N35, N36, N37, N38, N39, N40, N41, N42, N43, N45, N48, N57, N59, N88, N89, N97, N99, N120, N121, N122, N179, N200, N255, N300, N400, N880, N900, N999, N1019, N50000000, N100000000, N1000000000, N2147483647, N2147483648, hk, lg_0, c, isb_0]
  | r + 1, i, n + 1, z, hz, hi, hn => by
    have eL : nI L = I (L : Int) := (I_nat L).symm
    have ih := rW2 (w := w) hk hL L5 r (i + 1) n (z + 1) (by omega) (by omega) (by omega)
    have e8 : ((I 8).toInt64 &&& 63 : Int64) = 8 := by decide
    have ew : w64 (rl (fun i => (tch w (I (i : Int))).toInt) (i + 1)) = (w64 (rl (fun i => (tch w (I (i : Int))).toInt) i) <<< (8 : Int64)) ||| (tch w (I z)).toInt64 := by
      show (w64 (rl (fun i => (tch w (I (i : Int))).toInt) i) <<< (8 : Int64)) ||| (I (tch w (I (i : Int))).toInt).toInt64 = _
      rw [I_of, hz]
    rw [ew] at ih
    rw [f_X7_isWord_5]
    rw [hL, eL]
    simp (disch := omega) only [↓reduceIte, gd_t, bd_s, nm_W, nm_I, I_add, I_sub, I_mul, I_neg, I_le_t, I_le_f, I_lt_t, I_lt_f, I_eq_t, I_eq_f, I_inb', I_ix', Int.toNat_natCast, decide_true, decide_false, Bool.not_false, Bool.not_true, if_true, if_false, wi_eq, wi_eq', wi_ne, wi_row, wi_2, N0, N1, N2, N3, N4, N5, N6, N7, N8, N9, N10, N11, N12, N13, N14, N15, N16, N17, N18, N19, N20, N21, N22, N23, N24, N25, N26, N27, N28, N29, N30, N31, N32, N33, N34, N35, N36, N37, N38, N39, N40, N41, N42, N43, N45, N48, N57, N59, N88, N89, N97, N99, N120, N121, N122, N179, N200, N255, N300, N400, N880, N900, N999, N1019, N50000000, N100000000, N1000000000, N2147483647, N2147483648, e8, ih]
theorem cW {σ : Wd} {N pl : Nat} {w L : Nat} {bt : Nat → Int} (h2 : ∀ i, i < N → σ.1 2 i = I (bt i) ∧ -128 ≤ bt i ∧ bt i ≤ 127) (hN : N ≤ 900) (c8 : σ.1 1 8 = I (pl : Int)) (hL : txL.getD w 0 = L) (L5 : L ≤ 5) (hp : pl + L ≤ N) : ∀ (r i n : Nat) (z : Int), z = (i : Int) → i + r = L → r < n → (∀ j, j < i → bt (pl + j) = (tch w (I (j : Int))).toInt) →
    f_X5_isWord_28 w n (I z) σ = some (I (bn (decide (rl (fun i => bt (pl + i)) L = lw w))), σ)
  | 0, i, n + 1, z, hz, hi, _, h => by
    have eL : nI L = I (L : Int) := (I_nat L).symm
    have el : rl (fun i => bt (pl + i)) L = lw w := by
      unfold lw
      rw [hL]
      exact rl_ext _ (fun j hj => h j (by omega))
    rw [decide_eq_true el, bn_t, f_X5_isWord_28, hL, eL]
    simp (disch := omega) only [↓reduceIte, gd_t, bd_s, nm_W, nm_I, I_add, I_sub, I_mul, I_neg, I_le_t, I_le_f, I_lt_t, I_lt_f, I_eq_t, I_eq_f, I_inb', I_ix', Int.toNat_natCast, decide_true, decide_false, Bool.not_false, Bool.not_true, if_true, if_false, wi_eq, wi_eq', wi_ne, wi_row, wi_2, N0, N1, N2, N3, N4, N5, N6, N7, N8, N9, N10, N11, N12, N13, N14, N15, N16, N17, N18, N19, N20, N21, N22, N23, N24, N25, N26, N27, N28, N29, N30, N31, N32, N33, N34, N35, N36, N37, N38, N39, N40, N41, N42, N43, N45, N48, N57, N59, N88, N89, N97, N99, N120, N121, N122, N179, N200, N255, N300, N400, N880, N900, N999, N1019, N50000000, N100000000, N1000000000, N2147483647, N2147483648, isb_1]
  | r + 1, i, n + 1, z, hz, hi, hn, h => by
    have eL : nI L = I (L : Int) := (I_nat L).symm
    obtain ⟨b1, b3, b4⟩ := h2 (pl + i) (by omega)
    have t1 : ((pl : Int) + z).toNat = pl + i := by omega
    have tI : I (tch w (I z)).toInt = tch w (I z) := I_of _
    by_cases c : bt (pl + i) = (tch w (I (i : Int))).toInt
    · have ih := cW h2 hN c8 hL L5 hp r (i + 1) n (z + 1) (by omega) (by omega) (by omega) (fun j hj => by
        by_cases e : j = i
        · rw [e]; exact c
        · exact h j (by omega))
      rw [← hz] at c
      rw [← ih, f_X5_isWord_28, hL, eL]
      clear h2 h ih
      have ec : I (bt (pl + i)) = tch w (I z) := by rw [c, I_of]
      simp (disch := omega) only [↓reduceIte, gd_t, bd_s, nm_W, nm_I, I_add, I_sub, I_mul, I_neg, I_le_t, I_le_f, I_lt_t, I_lt_f, I_eq_t, I_eq_f, I_inb', I_ix', Int.toNat_natCast, decide_true, decide_false, Bool.not_false, Bool.not_true, if_true, if_false, wi_eq, wi_eq', wi_ne, wi_row, wi_2, N0, N1, N2, N3, N4, N5, N6, N7, N8, N9, N10, N11, N12, N13, N14, N15, N16, N17, N18, N19, N20, N21, N22, N23, N24, N25, N26, N27, N28, N29, N30, N31, N32, N33, N34, N35, N36, N37, N38, N39, N40, N41, N42, N43, N45, N48, N57, N59, N88, N89, N97, N99, N120, N121, N122, N179, N200, N255, N300, N400, N880, N900, N999, N1019, N50000000, N100000000, N1000000000, N2147483647, N2147483648, c8, t1, b1, ec]
    · have el : ¬ rl (fun i => bt (pl + i)) L = lw w := fun q => by
        unfold lw at q
        rw [hL] at q
        exact c (rl_inj _ q i (by omega))
      have ec : ¬ I (bt (pl + i)) = tch w (I z) := fun q => by
        rw [← tI, I_eq (by unfold R; omega) (toInt_R _), hz] at q
        exact c q
      rw [decide_eq_false el, bn_f, f_X5_isWord_28, hL, eL]
      clear h2 h
      simp (disch := omega) only [↓reduceIte, gd_t, bd_s, nm_W, nm_I, I_add, I_sub, I_mul, I_neg, I_le_t, I_le_f, I_lt_t, I_lt_f, I_eq_t, I_eq_f, I_inb', I_ix', Int.toNat_natCast, decide_true, decide_false, Bool.not_false, Bool.not_true, if_true, if_false, wi_eq, wi_eq', wi_ne, wi_row, wi_2, N0, N1, N2, N3, N4, N5, N6, N7, N8, N9, N10, N11, N12, N13, N14, N15, N16, N17, N18, N19, N20, N21, N22, N23, N24, N25, N26, N27, N28, N29, N30, N31, N32, N33, N34, N35, N36, N37, N38, N39, N40, N41, N42, N43, N45, N48, N57, N59, N88, N89, N97, N99, N120, N121, N122, N179, N200, N255, N300, N400, N880, N900, N999, N1019, N50000000, N100000000, N1000000000, N2147483647, N2147483648, c8, t1, b1, ec, isb_0]
theorem isw_ok {N pl w : Nat} {bt : Nat → Int} {σ τ : Wd} {k n : Int} {l : List Int} (hw : w < 13) (hB : BY σ τ N bt) (hT : TK σ τ N bt pl k l n) : f_X5_isWord w σ = some (I (bn (decide (k = 1 ∧ l = lw w))), σ) ∧ f_X7_isWord w τ = some (I (bn (decide (k = 1 ∧ l = lw w))), τ) := by
  obtain ⟨nx, ⟨n1, n2, n3⟩, ⟨c5, c6, c7, c8, c1⟩, ⟨e28, e31, e33, e29⟩, hc⟩ := hT
  have hN := hB.1
  by_cases k1 : k = 1
  · rcases hc with ⟨q, -⟩ | ⟨-, e30, hl, h6, hlt, c9, e34⟩ | ⟨q, -⟩ | ⟨q, -⟩ | ⟨q, -⟩ | ⟨q, -⟩
    · omega
    · have l5 := txL5 w hw
      have ll : l.length ≤ 6 := by rw [hl, rl_len]; exact h6
      constructor
      · unfold f_X5_isWord f_X5_isWord_24
        have eL : nI (txL.getD w 0) = I ((txL.getD w 0 : Nat) : Int) := (I_nat _).symm
        by_cases c : txL.getD w 0 = nx - pl
        · have q := cW (σ := σ) (w := w) (bt := bt) (fun i hi => ⟨(hB.2 i hi).1, (hB.2 i hi).2.2⟩) hN c8 rfl l5 (by omega) (txL.getD w 0) 0 FU 0 rfl (by omega) (by show _ < 6000; omega) (fun j hj => absurd hj (by omega))
          rw [c7, k1, if_pos (show I 1 = (1 : Int32) from rfl), eL, c6, c8, I_sub, if_pos (by rw [c]; congr 1; omega)]
          rw [hl, ← c]
          rw [show decide ((1 : Int) = 1 ∧ rl (fun i => bt (pl + i)) (txL.getD w 0) = lw w) = decide (rl (fun i => bt (pl + i)) (txL.getD w 0) = lw w) from decide_eq_decide.mpr ⟨fun h => h.2, fun h => ⟨rfl, h⟩⟩]
          exact q
        · have nl : ¬ (k = 1 ∧ l = lw w) := fun q => c (by rw [← rl_len (fun i => (tch w (I (i : Int))).toInt) (txL.getD w 0)]; show (lw w).length = _; rw [← q.2, hl, rl_len])
          rw [decide_eq_false nl, bn_f, c7, k1, if_pos (show I 1 = (1 : Int32) from rfl), eL, c6, c8, I_sub, if_neg (by rw [I_eq (by unfold R; omega) (by unfold R; omega)]; omega)]
          rfl
      · have q := rW2 (τ := τ) (w := w) e30 rfl l5 (txL.getD w 0) 0 FU 0 rfl (by omega) (by show _ < 6000; omega)
        have e : f_X7_isWord w τ = some (I (bn (decide (τ.2.1 102 34 = w64 (lw w)))), τ) := q
        rw [e, e34]
        rw [show decide (w64 l = w64 (lw w)) = decide (k = 1 ∧ l = lw w) from decide_eq_decide.mpr ⟨fun h => ⟨k1, w64_inj hlt (lw_ltr hw) ll (lw_len hw) h⟩, fun h => by rw [h.2]⟩]
    · omega
    · omega
    · omega
    · omega
  · rw [decide_eq_false (fun q => k1 q.1), bn_f]
    have kb : 0 ≤ k ∧ k ≤ 5 := by omega
    constructor
    · unfold f_X5_isWord f_X5_isWord_24
      simp (disch := omega) only [↓reduceIte, gd_t, bd_s, nm_W, nm_I, I_add, I_sub, I_mul, I_neg, I_le_t, I_le_f, I_lt_t, I_lt_f, I_eq_t, I_eq_f, I_inb', I_ix', Int.toNat_natCast, decide_true, decide_false, Bool.not_false, Bool.not_true, if_true, if_false, wi_eq, wi_eq', wi_ne, wi_row, wi_2, N0, N1, N2, N3, N4, N5, N6, N7, N8, N9, N10, N11, N12, N13, N14, N15, N16, N17, N18, N19, N20, N21, N22, N23, N24, N25, N26, N27, N28, N29, N30, N31, N32, N33, N34, N35, N36, N37, N38, N39, N40, N41, N42, N43, N45, N48, N57, N59, N88, N89, N97, N99, N120, N121, N122, N179, N200, N255, N300, N400, N880, N900, N999, N1019, N50000000, N100000000, N1000000000, N2147483647, N2147483648, c7, isb_0]
    · rcases hc with ⟨q, h⟩ | ⟨q, -⟩ | ⟨q, h, -⟩ | ⟨q, h, -⟩ | ⟨q, h, -⟩ | ⟨q, h⟩
      · exact rWord0 hw h (by omega) (by omega)
      · exact absurd q k1
      · exact rWord0 hw h (by omega) (by omega)
      · exact rWord0 hw h (by omega) (by omega)
      · exact rWord0 hw h (by omega) (by omega)
      · exact rWord0 hw h (by omega) (by omega)
/-! a fault, on both sides -/
def BD (σ τ : Wd) : Prop := ∃ (f : Int) (pl : Nat), σ.1 1 1 = I f ∧ σ.1 1 2 = I (pl : Int) ∧ FT τ f pl
theorem bad_ok {N pl : Nat} {bt : Nat → Int} {σ τ : Wd} {k n c : Int} {l : List Int} (hT : TK σ τ N bt pl k l n) (hc : 1 ≤ c ∧ c ≤ 6) : ∃ (σ' τ' : Wd), f_X5_fails (I c) σ = some (I 0, σ') ∧ f_X7_flaw (I c) τ = some (0, τ') ∧ BD σ' τ' ∧ CG σ σ' ∧ RX τ τ' := by
  obtain ⟨nx, ⟨n1, n2, n3⟩, ⟨c5, c6, c7, c8, c1⟩, ⟨e28, e31, e33, e29⟩, -⟩ := hT
  refine ⟨wi (wi σ 1 1 (I c)) 1 2 (I (pl : Int)), wi (wi τ 102 33 (I c)) 102 30 (I 0), ?_, ?_, ⟨c, pl, by simp (disch := omega) only [wi_eq, wi_eq', wi_ne, wi_row, wi_2], by simp (disch := omega) only [wi_eq, wi_eq', wi_ne, wi_row, wi_2], by simp (disch := omega) only [wi_eq, wi_eq', wi_ne, wi_row, wi_2], hc.1, hc.2, by simp (disch := omega) only [wi_eq, wi_eq', wi_ne, wi_row, wi_2], by simp (disch := omega) only [wi_eq, wi_eq', wi_ne, wi_row, wi_2]; exact e31⟩, CGt CGw CGw, RXt (RXw (by omega)) (RXw (by omega))⟩
  · unfold f_X5_fails
    simp (disch := omega) only [↓reduceIte, gd_t, bd_s, nm_W, nm_I, I_add, I_sub, I_mul, I_neg, I_le_t, I_le_f, I_lt_t, I_lt_f, I_eq_t, I_eq_f, I_inb', I_ix', Int.toNat_natCast, decide_true, decide_false, Bool.not_false, Bool.not_true, if_true, if_false, wi_eq, wi_eq', wi_ne, wi_row, wi_2, N0, N1, N2, N3, N4, N5, N6, N7, N8, N9, N10, N11, N12, N13, N14, N15, N16, N17, N18, N19, N20, N21, N22, N23, N24, N25, N26, N27, N28, N29, N30, N31, N32, N33, N34, N35, N36, N37, N38, N39, N40, N41, N42, N43, N45, N48, N57, N59, N88, N89, N97, N99, N120, N121, N122, N179, N200, N255, N300, N400, N880, N900, N999, N1019, N50000000, N100000000, N1000000000, N2147483647, N2147483648, c8, isb_0]
  · unfold f_X7_flaw f_X7_flaw_12
    simp (disch := omega) only [↓reduceIte, gd_t, bd_s, nm_W, nm_I, I_add, I_sub, I_mul, I_neg, I_le_t, I_le_f, I_lt_t, I_lt_f, I_eq_t, I_eq_f, I_inb', I_ix', Int.toNat_natCast, decide_true, decide_false, Bool.not_false, Bool.not_true, if_true, if_false, wi_eq, wi_eq', wi_ne, wi_row, wi_2, N0, N1, N2, N3, N4, N5, N6, N7, N8, N9, N10, N11, N12, N13, N14, N15, N16, N17, N18, N19, N20, N21, N22, N23, N24, N25, N26, N27, N28, N29, N30, N31, N32, N33, N34, N35, N36, N37, N38, N39, N40, N41, N42, N43, N45, N48, N57, N59, N88, N89, N97, N99, N120, N121, N122, N179, N200, N255, N300, N400, N880, N900, N999, N1019, N50000000, N100000000, N1000000000, N2147483647, N2147483648, e33]
theorem TK_k {N pl : Nat} {bt : Nat → Int} {σ τ : Wd} {k n : Int} {l : List Int} (hT : TK σ τ N bt pl k l n) : 0 ≤ k ∧ k ≤ 5 := by
  obtain ⟨nx, -, -, -, hc⟩ := hT
  omega
theorem TK_c {N pl : Nat} {bt : Nat → Int} {σ τ σ' τ' : Wd} {k n : Int} {l : List Int} (hT : TK σ τ N bt pl k l n) (h : ∀ i, i ≠ 10 → σ'.1 1 i = σ.1 1 i) (g : ∀ i, 28 ≤ i → i ≤ 33 → τ'.1 102 i = τ.1 102 i) (g2 : τ'.2.1 102 34 = τ.2.1 102 34) : TK σ' τ' N bt pl k l n := by
  unfold TK at hT ⊢
  rw [h 5 (by decide), h 6 (by decide), h 7 (by decide), h 8 (by decide), h 1 (by decide), h 9 (by decide), g 28 (by decide) (by decide), g 29 (by decide) (by decide), g 30 (by decide) (by decide), g 31 (by decide) (by decide), g 32 (by decide) (by decide), g 33 (by decide) (by decide), g2]
  exact hT
theorem whole_ok {N pl : Nat} {bt : Nat → Int} {σ τ : Wd} {k n lo hi : Int} {l : List Int} (hB : BY σ τ N bt) (hT : TK σ τ N bt pl k l n) (hl : -1000 ≤ lo ∧ lo ≤ 1000) (hh : -1000 ≤ hi ∧ hi ≤ 1000) :
    (∃ (σ' τ' : Wd), f_X5_takesWhole (I lo) (I hi) σ = some (I 0, σ') ∧ f_X7_readWhole (I lo) (I hi) τ = some (I lo, τ') ∧ BD σ' τ' ∧ CG σ σ' ∧ RX τ τ')
    ∨ (∃ (σ' τ' : Wd) (v : Int) (pl' : Nat) (k' : Int) (l' : List Int) (n' : Int), f_X5_takesWhole (I lo) (I hi) σ = some (I 1, σ') ∧ f_X7_readWhole (I lo) (I hi) τ = some (I v, τ') ∧ lo ≤ v ∧ v ≤ hi ∧ σ'.1 1 10 = I v ∧ TK σ' τ' N bt pl' k' l' n' ∧ pl ≤ pl' ∧ CG σ σ' ∧ RX τ τ') := by
  have kb := TK_k hT
  have hT0 := hT
  obtain ⟨nx, ⟨n1, n2, n3⟩, ⟨c5, c6, c7, c8, c1⟩, ⟨e28, e31, e33, e29⟩, hc⟩ := hT
  by_cases k2 : k = 2
  · rcases hc with ⟨q, -⟩ | ⟨q, -⟩ | ⟨-, e30, m1, m2, c9, e32⟩ | ⟨q, -⟩ | ⟨q, -⟩ | ⟨q, -⟩
    · omega
    · omega
    · by_cases c : lo ≤ n ∧ n ≤ hi
      · refine Or.inr ?_
        have hT1 : TK (wi σ 1 10 (I n)) τ N bt pl k l n := TK_c hT0 (fun i hi => wi_ne hi) (fun _ _ _ => rfl) rfl
        obtain ⟨σ', τ', pl', k', l', n', q1, q2, q3, q4, q5, q6⟩ := step_ok (BY_f hB CGw RXr) hT1 (by omega)
        have i1 := rIn1 (σ := τ) (z := n) (lo := lo) (hi := hi) (by unfold R; omega) (by unfold R; omega) (by unfold R; omega) c
        have f33 : τ'.1 102 33 = I 0 := by
          obtain ⟨_, -, -, ⟨-, -, h, -⟩, -⟩ := q3
          exact h
        refine ⟨σ', τ', n, pl', k', l', n', ?_, ?_, c.1, c.2, by rw [q5.2.1, wi_eq], q3, q4.1, CGt CGw (CFG q5), q6⟩
        · unfold f_X5_takesWhole
          simp (disch := omega) only [↓reduceIte, gd_t, bd_s, nm_W, nm_I, I_add, I_sub, I_mul, I_neg, I_le_t, I_le_f, I_lt_t, I_lt_f, I_eq_t, I_eq_f, I_inb', I_ix', Int.toNat_natCast, decide_true, decide_false, Bool.not_false, Bool.not_true, if_true, if_false, wi_eq, wi_eq', wi_ne, wi_row, wi_2, N0, N1, N2, N3, N4, N5, N6, N7, N8, N9, N10, N11, N12, N13, N14, N15, N16, N17, N18, N19, N20, N21, N22, N23, N24, N25, N26, N27, N28, N29, N30, N31, N32, N33, N34, N35, N36, N37, N38, N39, N40, N41, N42, N43, N45, N48, N57, N59, N88, N89, N97, N99, N120, N121, N122, N179, N200, N255, N300, N400, N880, N900, N999, N1019, N50000000, N100000000, N1000000000, N2147483647, N2147483648, c7, c9, q1, isb_1]
        · unfold f_X7_readWhole f_X7_readWhole_33 f_X7_readWhole_54
          simp (disch := omega) only [↓reduceIte, gd_t, bd_s, nm_W, nm_I, I_add, I_sub, I_mul, I_neg, I_le_t, I_le_f, I_lt_t, I_lt_f, I_eq_t, I_eq_f, I_inb', I_ix', Int.toNat_natCast, decide_true, decide_false, Bool.not_false, Bool.not_true, if_true, if_false, wi_eq, wi_eq', wi_ne, wi_row, wi_2, N0, N1, N2, N3, N4, N5, N6, N7, N8, N9, N10, N11, N12, N13, N14, N15, N16, N17, N18, N19, N20, N21, N22, N23, N24, N25, N26, N27, N28, N29, N30, N31, N32, N33, N34, N35, N36, N37, N38, N39, N40, N41, N42, N43, N45, N48, N57, N59, N88, N89, N97, N99, N120, N121, N122, N179, N200, N255, N300, N400, N880, N900, N999, N1019, N50000000, N100000000, N1000000000, N2147483647, N2147483648, e30, e32, i1, q2, f33]
      · refine Or.inl ?_
        obtain ⟨σ', τ', q1, q2, q3, q4, q5⟩ := bad_ok (c := 4) hT0 (by omega)
        have i0 := rIn0 (σ := τ) (z := n) (lo := lo) (hi := hi) (by unfold R; omega) (by unfold R; omega) (by unfold R; omega) c
        obtain ⟨f, pf, -, -, hF⟩ := id q3
        have en := ft_next hF
        obtain ⟨f1, f2, f3, f4, f5⟩ := hF
        refine ⟨σ', τ', ?_, ?_, q3, q4, q5⟩
        · unfold f_X5_takesWhole f_X5_takesWhole_30
          by_cases cl : n < lo
          · simp (disch := omega) only [↓reduceIte, gd_t, bd_s, nm_W, nm_I, I_add, I_sub, I_mul, I_neg, I_le_t, I_le_f, I_lt_t, I_lt_f, I_eq_t, I_eq_f, I_inb', I_ix', Int.toNat_natCast, decide_true, decide_false, Bool.not_false, Bool.not_true, if_true, if_false, wi_eq, wi_eq', wi_ne, wi_row, wi_2, N0, N1, N2, N3, N4, N5, N6, N7, N8, N9, N10, N11, N12, N13, N14, N15, N16, N17, N18, N19, N20, N21, N22, N23, N24, N25, N26, N27, N28, N29, N30, N31, N32, N33, N34, N35, N36, N37, N38, N39, N40, N41, N42, N43, N45, N48, N57, N59, N88, N89, N97, N99, N120, N121, N122, N179, N200, N255, N300, N400, N880, N900, N999, N1019, N50000000, N100000000, N1000000000, N2147483647, N2147483648, c7, c9, q1, isb_0]
          · simp (disch := omega) only [↓reduceIte, gd_t, bd_s, nm_W, nm_I, I_add, I_sub, I_mul, I_neg, I_le_t, I_le_f, I_lt_t, I_lt_f, I_eq_t, I_eq_f, I_inb', I_ix', Int.toNat_natCast, decide_true, decide_false, Bool.not_false, Bool.not_true, if_true, if_false, wi_eq, wi_eq', wi_ne, wi_row, wi_2, N0, N1, N2, N3, N4, N5, N6, N7, N8, N9, N10, N11, N12, N13, N14, N15, N16, N17, N18, N19, N20, N21, N22, N23, N24, N25, N26, N27, N28, N29, N30, N31, N32, N33, N34, N35, N36, N37, N38, N39, N40, N41, N42, N43, N45, N48, N57, N59, N88, N89, N97, N99, N120, N121, N122, N179, N200, N255, N300, N400, N880, N900, N999, N1019, N50000000, N100000000, N1000000000, N2147483647, N2147483648, c7, c9, q1, isb_0]
        · unfold f_X7_readWhole f_X7_readWhole_33 f_X7_readWhole_54
          simp (disch := omega) only [↓reduceIte, gd_t, bd_s, nm_W, nm_I, I_add, I_sub, I_mul, I_neg, I_le_t, I_le_f, I_lt_t, I_lt_f, I_eq_t, I_eq_f, I_inb', I_ix', Int.toNat_natCast, decide_true, decide_false, Bool.not_false, Bool.not_true, if_true, if_false, wi_eq, wi_eq', wi_ne, wi_row, wi_2, N0, N1, N2, N3, N4, N5, N6, N7, N8, N9, N10, N11, N12, N13, N14, N15, N16, N17, N18, N19, N20, N21, N22, N23, N24, N25, N26, N27, N28, N29, N30, N31, N32, N33, N34, N35, N36, N37, N38, N39, N40, N41, N42, N43, N45, N48, N57, N59, N88, N89, N97, N99, N120, N121, N122, N179, N200, N255, N300, N400, N880, N900, N999, N1019, N50000000, N100000000, N1000000000, N2147483647, N2147483648, e30, e32, i0, q2, en, f1]
    · omega
    · omega
    · omega
  · refine Or.inl ?_
    obtain ⟨σ', τ', q1, q2, q3, q4, q5⟩ := bad_ok (c := 1) hT0 (by omega)
    obtain ⟨f, pf, -, -, hF⟩ := id q3
    have en := ft_next hF
    obtain ⟨f1, f2, f3, f4, f5⟩ := hF
    obtain ⟨kd, e30, k3⟩ : ∃ kd, τ.1 102 30 = I kd ∧ 0 ≤ kd ∧ kd ≤ 4 ∧ kd ≠ 3 := by
      rcases hc with ⟨q, h⟩ | ⟨q, h, -⟩ | ⟨q, -⟩ | ⟨q, h, -⟩ | ⟨q, h, -⟩ | ⟨q, h⟩
      · exact ⟨1, h, by omega⟩
      · exact ⟨2, h, by omega⟩
      · exact absurd q k2
      · exact ⟨4, h, by omega⟩
      · exact ⟨4, h, by omega⟩
      · exact ⟨0, h, by omega⟩
    refine ⟨σ', τ', ?_, ?_, q3, q4, q5⟩
    · unfold f_X5_takesWhole
      simp (disch := omega) only [↓reduceIte, gd_t, bd_s, nm_W, nm_I, I_add, I_sub, I_mul, I_neg, I_le_t, I_le_f, I_lt_t, I_lt_f, I_eq_t, I_eq_f, I_inb', I_ix', Int.toNat_natCast, decide_true, decide_false, Bool.not_false, Bool.not_true, if_true, if_false, wi_eq, wi_eq', wi_ne, wi_row, wi_2, N0, N1, N2, N3, N4, N5, N6, N7, N8, N9, N10, N11, N12, N13, N14, N15, N16, N17, N18, N19, N20, N21, N22, N23, N24, N25, N26, N27, N28, N29, N30, N31, N32, N33, N34, N35, N36, N37, N38, N39, N40, N41, N42, N43, N45, N48, N57, N59, N88, N89, N97, N99, N120, N121, N122, N179, N200, N255, N300, N400, N880, N900, N999, N1019, N50000000, N100000000, N1000000000, N2147483647, N2147483648, c7, q1, isb_0]
    · unfold f_X7_readWhole f_X7_readWhole_33 f_X7_readWhole_54
      simp (disch := omega) only [↓reduceIte, gd_t, bd_s, nm_W, nm_I, I_add, I_sub, I_mul, I_neg, I_le_t, I_le_f, I_lt_t, I_lt_f, I_eq_t, I_eq_f, I_inb', I_ix', Int.toNat_natCast, decide_true, decide_false, Bool.not_false, Bool.not_true, if_true, if_false, wi_eq, wi_eq', wi_ne, wi_row, wi_2, N0, N1, N2, N3, N4, N5, N6, N7, N8, N9, N10, N11, N12, N13, N14, N15, N16, N17, N18, N19, N20, N21, N22, N23, N24, N25, N26, N27, N28, N29, N30, N31, N32, N33, N34, N35, N36, N37, N38, N39, N40, N41, N42, N43, N45, N48, N57, N59, N88, N89, N97, N99, N120, N121, N122, N179, N200, N255, N300, N400, N880, N900, N999, N1019, N50000000, N100000000, N1000000000, N2147483647, N2147483648, e30, q2, en, f1]
theorem TK_1 {N pl : Nat} {bt : Nat → Int} {σ τ : Wd} {k n : Int} {l : List Int} (hT : TK σ τ N bt pl k l n) (hk : k = 1) : ltr l ∧ l.length ≤ 6 ∧ σ.1 1 9 = I (w27 l) ∧ τ.2.1 102 34 = w64 l := by
  obtain ⟨nx, -, -, -, hc⟩ := hT
  rcases hc with ⟨q, -⟩ | ⟨-, e30, hl, h6, hlt, c9, e34⟩ | ⟨q, -⟩ | ⟨q, -⟩ | ⟨q, -⟩ | ⟨q, -⟩
  · omega
  · exact ⟨hlt, by rw [hl, rl_len]; exact h6, c9, e34⟩
  · omega
  · omega
  · omega
  · omega
theorem TK_33 {N pl : Nat} {bt : Nat → Int} {σ τ : Wd} {k n : Int} {l : List Int} (hT : TK σ τ N bt pl k l n) : τ.1 102 33 = I 0 ∧ σ.1 1 7 = I k := by
  obtain ⟨nx, -, ⟨-, -, h7, -⟩, ⟨-, -, h, -⟩, -⟩ := hT
  exact ⟨h, h7⟩
end
section
/-! PURE: the text: word and number, name, kind, fee -/
theorem word1_ok {N pl w : Nat} {bt : Nat → Int} {σ τ : Wd} {k n : Int} {l : List Int} (hw : w < 13) (hB : BY σ τ N bt) (hT : TK σ τ N bt pl k l n) :
    (∃ (σ' τ' : Wd), f_X5_takesWord w σ = some (I 0, σ') ∧ (bd (f_X7_isWord w τ) fun r1 σ2 => if r1 = 0 then (bd (f_X7_flaw (1 : Int32) σ2) fun _ σ3 => (f_X7_next σ3)) else (f_X7_next σ2)) = some (0, τ') ∧ BD σ' τ' ∧ CG σ σ' ∧ RX τ τ')
    ∨ (∃ (σ' τ' : Wd) (pl' : Nat) (k' : Int) (l' : List Int) (n' : Int), f_X5_takesWord w σ = some (I 1, σ') ∧ (bd (f_X7_isWord w τ) fun r1 σ2 => if r1 = 0 then (bd (f_X7_flaw (1 : Int32) σ2) fun _ σ3 => (f_X7_next σ3)) else (f_X7_next σ2)) = some (0, τ') ∧ TK σ' τ' N bt pl' k' l' n' ∧ pl ≤ pl' ∧ CG σ σ' ∧ RX τ τ') := by
  obtain ⟨e1, e2⟩ := isw_ok hw hB hT
  by_cases c : k = 1 ∧ l = lw w
  · refine Or.inr ?_
    rw [decide_eq_true c, bn_t] at e1 e2
    obtain ⟨σ', τ', pl', k', l', n', q1, q2, q3, q4, q5, q6⟩ := step_ok hB hT (by omega)
    refine ⟨σ', τ', pl', k', l', n', ?_, ?_, q3, q4.1, CFG q5, q6⟩
    · unfold f_X5_takesWord
      simp (disch := omega) only [↓reduceIte, gd_t, bd_s, nm_W, nm_I, I_add, I_sub, I_mul, I_neg, I_le_t, I_le_f, I_lt_t, I_lt_f, I_eq_t, I_eq_f, I_inb', I_ix', Int.toNat_natCast, decide_true, decide_false, Bool.not_false, Bool.not_true, if_true, if_false, wi_eq, wi_eq', wi_ne, wi_row, wi_2, N0, N1, N2, N3, N4, N5, N6, N7, N8, N9, N10, N11, N12, N13, N14, N15, N16, N17, N18, N19, N20, N21, N22, N23, N24, N25, N26, N27, N28, N29, N30, N31, N32, N33, N34, N35, N36, N37, N38, N39, N40, N41, N42, N43, N45, N48, N57, N59, N88, N89, N97, N99, N120, N121, N122, N179, N200, N255, N300, N400, N880, N900, N999, N1019, N50000000, N100000000, N1000000000, N2147483647, N2147483648, e1, q1, isb_1]
    · simp (disch := omega) only [↓reduceIte, gd_t, bd_s, nm_W, nm_I, I_add, I_sub, I_mul, I_neg, I_le_t, I_le_f, I_lt_t, I_lt_f, I_eq_t, I_eq_f, I_inb', I_ix', Int.toNat_natCast, decide_true, decide_false, Bool.not_false, Bool.not_true, if_true, if_false, wi_eq, wi_eq', wi_ne, wi_row, wi_2, N0, N1, N2, N3, N4, N5, N6, N7, N8, N9, N10, N11, N12, N13, N14, N15, N16, N17, N18, N19, N20, N21, N22, N23, N24, N25, N26, N27, N28, N29, N30, N31, N32, N33, N34, N35, N36, N37, N38, N39, N40, N41, N42, N43, N45, N48, N57, N59, N88, N89, N97, N99, N120, N121, N122, N179, N200, N255, N300, N400, N880, N900, N999, N1019, N50000000, N100000000, N1000000000, N2147483647, N2147483648, e2, q2]
  · refine Or.inl ?_
    rw [decide_eq_false c, bn_f] at e1 e2
    obtain ⟨σ', τ', q1, q2, q3, q4, q5⟩ := bad_ok (c := 1) hT (by omega)
    obtain ⟨f, pf, -, -, hF⟩ := id q3
    have en := ft_next hF
    refine ⟨σ', τ', ?_, ?_, q3, q4, q5⟩
    · unfold f_X5_takesWord
      simp (disch := omega) only [↓reduceIte, gd_t, bd_s, nm_W, nm_I, I_add, I_sub, I_mul, I_neg, I_le_t, I_le_f, I_lt_t, I_lt_f, I_eq_t, I_eq_f, I_inb', I_ix', Int.toNat_natCast, decide_true, decide_false, Bool.not_false, Bool.not_true, if_true, if_false, wi_eq, wi_eq', wi_ne, wi_row, wi_2, N0, N1, N2, N3, N4, N5, N6, N7, N8, N9, N10, N11, N12, N13, N14, N15, N16, N17, N18, N19, N20, N21, N22, N23, N24, N25, N26, N27, N28, N29, N30, N31, N32, N33, N34, N35, N36, N37, N38, N39, N40, N41, N42, N43, N45, N48, N57, N59, N88, N89, N97, N99, N120, N121, N122, N179, N200, N255, N300, N400, N880, N900, N999, N1019, N50000000, N100000000, N1000000000, N2147483647, N2147483648, e1, q1, isb_0]
    · simp (disch := omega) only [↓reduceIte, gd_t, bd_s, nm_W, nm_I, I_add, I_sub, I_mul, I_neg, I_le_t, I_le_f, I_lt_t, I_lt_f, I_eq_t, I_eq_f, I_inb', I_ix', Int.toNat_natCast, decide_true, decide_false, Bool.not_false, Bool.not_true, if_true, if_false, wi_eq, wi_eq', wi_ne, wi_row, wi_2, N0, N1, N2, N3, N4, N5, N6, N7, N8, N9, N10, N11, N12, N13, N14, N15, N16, N17, N18, N19, N20, N21, N22, N23, N24, N25, N26, N27, N28, N29, N30, N31, N32, N33, N34, N35, N36, N37, N38, N39, N40, N41, N42, N43, N45, N48, N57, N59, N88, N89, N97, N99, N120, N121, N122, N179, N200, N255, N300, N400, N880, N900, N999, N1019, N50000000, N100000000, N1000000000, N2147483647, N2147483648, e2, q2, en]
theorem bd_as (a : Option (Int32 × Wd)) (f g : Int32 → Wd → Option (Int32 × Wd)) : bd (bd a f) g = bd a (fun r s => bd (f r s) g) := by
  cases a with
  | none => rfl
  | some p => rfl
theorem rPart_as {w : Nat} {lo hi : Int32} {τ : Wd} : f_X7_readPart w lo hi τ = bd (bd (f_X7_isWord w τ) fun r1 σ2 => if r1 = 0 then (bd (f_X7_flaw (1 : Int32) σ2) fun _ σ3 => (f_X7_next σ3)) else (f_X7_next σ2)) (fun _ σ1 => f_X7_readWhole lo hi σ1) := by
  unfold f_X7_readPart f_X7_readPart_13
  rw [bd_as]
  cases f_X7_isWord w τ with
  | none => rfl
  | some p =>
    obtain ⟨r, s⟩ := p
    rw [bd_s, bd_s]
    by_cases c : r = 0
    · rw [if_pos c, if_pos c, bd_as]
      cases f_X7_flaw 1 s with
      | none => rfl
      | some p =>
        obtain ⟨r, s⟩ := p
        rw [bd_s, bd_s]
        cases f_X7_next s with
        | none => rfl
        | some p =>
          obtain ⟨r, s⟩ := p
          rw [bd_s, bd_s]
          cases f_X7_readWhole lo hi s with
          | none => rfl
          | some p => rfl
    · rw [if_neg c, if_neg c]
      cases f_X7_next s with
      | none => rfl
      | some p =>
        obtain ⟨r, s⟩ := p
        rw [bd_s, bd_s]
        cases f_X7_readWhole lo hi s with
        | none => rfl
        | some p => rfl
/-- a word and a number: K1 goes on behind them, K0 if it isn't so -/
theorem part_ok {N pl w : Nat} {bt : Nat → Int} {σ τ : Wd} {k n lo hi : Int} {l : List Int} {K0 K1 : Wd → Option (Int32 × Wd)} (h0 : ∀ s, K0 s = some (I 0, s)) (hw : w < 13) (hB : BY σ τ N bt) (hT : TK σ τ N bt pl k l n) (hl : -1000 ≤ lo ∧ lo ≤ 1000) (hh : -1000 ≤ hi ∧ hi ≤ 1000) :
    (∃ (σ' τ' : Wd), (bd (f_X5_takesWord w σ) fun r1 σ2 => if r1 = 0 then K0 σ2 else (bd (f_X5_takesWhole (I lo) (I hi) σ2) fun r3 σ4 => if r3 = 0 then K0 σ4 else K1 σ4)) = some (I 0, σ') ∧ f_X7_readPart w (I lo) (I hi) τ = some (I lo, τ') ∧ BD σ' τ' ∧ CG σ σ' ∧ RX τ τ')
    ∨ (∃ (σ' τ' : Wd) (v : Int) (pl' : Nat) (k' : Int) (l' : List Int) (n' : Int), (bd (f_X5_takesWord w σ) fun r1 σ2 => if r1 = 0 then K0 σ2 else (bd (f_X5_takesWhole (I lo) (I hi) σ2) fun r3 σ4 => if r3 = 0 then K0 σ4 else K1 σ4)) = K1 σ' ∧ f_X7_readPart w (I lo) (I hi) τ = some (I v, τ') ∧ lo ≤ v ∧ v ≤ hi ∧ σ'.1 1 10 = I v ∧ TK σ' τ' N bt pl' k' l' n' ∧ pl ≤ pl' ∧ CG σ σ' ∧ RX τ τ') := by
  rw [rPart_as]
  rcases word1_ok hw hB hT with ⟨σ1, τ1, q1, q2, q3, q4, q5⟩ | ⟨σ1, τ1, pl1, k1, l1, n1, q1, q2, q3, q4, q5, q6⟩
  · refine Or.inl ⟨σ1, τ1, ?_, ?_, q3, q4, q5⟩
    · rw [q1, bd_s, if_pos (show I 0 = (0 : Int32) from rfl), h0]
    · obtain ⟨f, pf, -, -, hF⟩ := q3
      rw [q2, bd_s, ft_whole hF]
  · rcases whole_ok (BY_f hB q5 q6) q3 hl hh with ⟨σ2, τ2, p1, p2, p3, p4, p5⟩ | ⟨σ2, τ2, v, pl2, k2, l2, n2, p1, p2, p3, p4, p5, p6, p7, p8, p9⟩
    · refine Or.inl ⟨σ2, τ2, ?_, ?_, p3, CGt q5 p4, RXt q6 p5⟩
      · rw [q1, bd_s, if_neg (show ¬ I 1 = (0 : Int32) by decide), p1, bd_s, if_pos (show I 0 = (0 : Int32) from rfl), h0]
      · rw [q2, bd_s, p2]
    · refine Or.inr ⟨σ2, τ2, v, pl2, k2, l2, n2, ?_, ?_, p3, p4, p5, p6, by omega, CGt q5 p8, RXt q6 p9⟩
      · rw [q1, bd_s, if_neg (show ¬ I 1 = (0 : Int32) by decide), p1, bd_s, if_neg (show ¬ I 1 = (0 : Int32) by decide)]
      · rw [q2, bd_s, p2]
/-- a number alone -/
theorem num1_ok {N pl : Nat} {bt : Nat → Int} {σ τ : Wd} {k n lo hi : Int} {l : List Int} {K0 K1 : Wd → Option (Int32 × Wd)} (h0 : ∀ s, K0 s = some (I 0, s)) (hB : BY σ τ N bt) (hT : TK σ τ N bt pl k l n) (hl : -1000 ≤ lo ∧ lo ≤ 1000) (hh : -1000 ≤ hi ∧ hi ≤ 1000) :
    (∃ (σ' τ' : Wd), (bd (f_X5_takesWhole (I lo) (I hi) σ) fun r3 σ4 => if r3 = 0 then K0 σ4 else K1 σ4) = some (I 0, σ') ∧ f_X7_readWhole (I lo) (I hi) τ = some (I lo, τ') ∧ BD σ' τ' ∧ CG σ σ' ∧ RX τ τ')
    ∨ (∃ (σ' τ' : Wd) (v : Int) (pl' : Nat) (k' : Int) (l' : List Int) (n' : Int), (bd (f_X5_takesWhole (I lo) (I hi) σ) fun r3 σ4 => if r3 = 0 then K0 σ4 else K1 σ4) = K1 σ' ∧ f_X7_readWhole (I lo) (I hi) τ = some (I v, τ') ∧ lo ≤ v ∧ v ≤ hi ∧ σ'.1 1 10 = I v ∧ TK σ' τ' N bt pl' k' l' n' ∧ pl ≤ pl' ∧ CG σ σ' ∧ RX τ τ') := by
  rcases whole_ok hB hT hl hh with ⟨σ2, τ2, p1, p2, p3⟩ | ⟨σ2, τ2, v, pl2, k2, l2, n2, p1, p2, p3⟩
  · refine Or.inl ⟨σ2, τ2, ?_, p2, p3⟩
    rw [p1, bd_s, if_pos (show I 0 = (0 : Int32) from rfl), h0]
  · refine Or.inr ⟨σ2, τ2, v, pl2, k2, l2, n2, ?_, p2, p3⟩
    rw [p1, bd_s, if_neg (show ¬ I 1 = (0 : Int32) by decide)]
/-! names -/
def nmb (k : Int) (l : List Int) : Bool := decide (k = 1) && (!decide (k = 1 ∧ l = lw 0) && (!decide (k = 1 ∧ l = lw 1) && (!decide (k = 1 ∧ l = lw 2) && !decide (k = 1 ∧ l = lw 3))))
theorem name_ok {N pl : Nat} {bt : Nat → Int} {σ τ : Wd} {k n : Int} {l : List Int} (hB : BY σ τ N bt) (hT : TK σ τ N bt pl k l n) : f_X5_isName σ = some (I (bn (nmb k l)), σ) ∧ f_X7_isName τ = some (I (bn (nmb k l)), τ) := by
  obtain ⟨a0, b0⟩ := isw_ok (w := 0) (by decide) hB hT
  obtain ⟨a1, b1⟩ := isw_ok (w := 1) (by decide) hB hT
  obtain ⟨a2, b2⟩ := isw_ok (w := 2) (by decide) hB hT
  obtain ⟨a3, b3⟩ := isw_ok (w := 3) (by decide) hB hT
  have kb := TK_k hT
  obtain ⟨nx, -, ⟨c5, c6, c7, c8, c1⟩, -, hc⟩ := hT
  have e30 : ∃ kd, τ.1 102 30 = I kd ∧ 0 ≤ kd ∧ kd ≤ 4 ∧ (kd = 2 ↔ k = 1) := by
    rcases hc with ⟨q, h⟩ | ⟨q, h, -⟩ | ⟨q, h, -⟩ | ⟨q, h, -⟩ | ⟨q, h, -⟩ | ⟨q, h⟩
    · exact ⟨1, h, by omega⟩
    · exact ⟨2, h, by omega⟩
    · exact ⟨3, h, by omega⟩
    · exact ⟨4, h, by omega⟩
    · exact ⟨4, h, by omega⟩
    · exact ⟨0, h, by omega⟩
  clear hc
  obtain ⟨kd, e30, k0, k4, k2⟩ := e30
  unfold nmb
  unfold f_X5_isName f_X5_isName_48 f_X5_isName_49 f_X7_isName f_X7_isName_48 f_X7_isName_49
  by_cases k1 : k = 1
  · have kd2 : kd = 2 := k2.mpr k1
    rw [decide_eq_true k1, Bool.true_and]
    cases h0 : decide (k = 1 ∧ l = lw 0) with
    | true =>
      rw [h0, bn_t] at a0 b0
      constructor
      · simp (disch := omega) only [↓reduceIte, gd_t, bd_s, nm_W, nm_I, I_add, I_sub, I_mul, I_neg, I_le_t, I_le_f, I_lt_t, I_lt_f, I_eq_t, I_eq_f, I_inb', I_ix', Int.toNat_natCast, decide_true, decide_false, Bool.not_false, Bool.not_true, if_true, if_false, wi_eq, wi_eq', wi_ne, wi_row, wi_2, N0, N1, N2, N3, N4, N5, N6, N7, N8, N9, N10, N11, N12, N13, N14, N15, N16, N17, N18, N19, N20, N21, N22, N23, N24, N25, N26, N27, N28, N29, N30, N31, N32, N33, N34, N35, N36, N37, N38, N39, N40, N41, N42, N43, N45, N48, N57, N59, N88, N89, N97, N99, N120, N121, N122, N179, N200, N255, N300, N400, N880, N900, N999, N1019, N50000000, N100000000, N1000000000, N2147483647, N2147483648, c7, a0, isb_0, Bool.false_and, bn_f]
      · simp (disch := omega) only [↓reduceIte, gd_t, bd_s, nm_W, nm_I, I_add, I_sub, I_mul, I_neg, I_le_t, I_le_f, I_lt_t, I_lt_f, I_eq_t, I_eq_f, I_inb', I_ix', Int.toNat_natCast, decide_true, decide_false, Bool.not_false, Bool.not_true, if_true, if_false, wi_eq, wi_eq', wi_ne, wi_row, wi_2, N0, N1, N2, N3, N4, N5, N6, N7, N8, N9, N10, N11, N12, N13, N14, N15, N16, N17, N18, N19, N20, N21, N22, N23, N24, N25, N26, N27, N28, N29, N30, N31, N32, N33, N34, N35, N36, N37, N38, N39, N40, N41, N42, N43, N45, N48, N57, N59, N88, N89, N97, N99, N120, N121, N122, N179, N200, N255, N300, N400, N880, N900, N999, N1019, N50000000, N100000000, N1000000000, N2147483647, N2147483648, e30, b0, isb_0, Bool.false_and, bn_f]
    | false =>
      rw [h0, bn_f] at a0 b0
      cases h1 : decide (k = 1 ∧ l = lw 1) with
      | true =>
        rw [h1, bn_t] at a1 b1
        constructor
        · simp (disch := omega) only [↓reduceIte, gd_t, bd_s, nm_W, nm_I, I_add, I_sub, I_mul, I_neg, I_le_t, I_le_f, I_lt_t, I_lt_f, I_eq_t, I_eq_f, I_inb', I_ix', Int.toNat_natCast, decide_true, decide_false, Bool.not_false, Bool.not_true, if_true, if_false, wi_eq, wi_eq', wi_ne, wi_row, wi_2, N0, N1, N2, N3, N4, N5, N6, N7, N8, N9, N10, N11, N12, N13, N14, N15, N16, N17, N18, N19, N20, N21, N22, N23, N24, N25, N26, N27, N28, N29, N30, N31, N32, N33, N34, N35, N36, N37, N38, N39, N40, N41, N42, N43, N45, N48, N57, N59, N88, N89, N97, N99, N120, N121, N122, N179, N200, N255, N300, N400, N880, N900, N999, N1019, N50000000, N100000000, N1000000000, N2147483647, N2147483648, c7, a0, a1, isb_0, Bool.false_and, Bool.true_and, bn_f]
        · simp (disch := omega) only [↓reduceIte, gd_t, bd_s, nm_W, nm_I, I_add, I_sub, I_mul, I_neg, I_le_t, I_le_f, I_lt_t, I_lt_f, I_eq_t, I_eq_f, I_inb', I_ix', Int.toNat_natCast, decide_true, decide_false, Bool.not_false, Bool.not_true, if_true, if_false, wi_eq, wi_eq', wi_ne, wi_row, wi_2, N0, N1, N2, N3, N4, N5, N6, N7, N8, N9, N10, N11, N12, N13, N14, N15, N16, N17, N18, N19, N20, N21, N22, N23, N24, N25, N26, N27, N28, N29, N30, N31, N32, N33, N34, N35, N36, N37, N38, N39, N40, N41, N42, N43, N45, N48, N57, N59, N88, N89, N97, N99, N120, N121, N122, N179, N200, N255, N300, N400, N880, N900, N999, N1019, N50000000, N100000000, N1000000000, N2147483647, N2147483648, e30, b0, b1, isb_0, Bool.false_and, Bool.true_and, bn_f]
      | false =>
        rw [h1, bn_f] at a1 b1
        cases h2 : decide (k = 1 ∧ l = lw 2) with
        | true =>
          rw [h2, bn_t] at a2 b2
          constructor
          · simp (disch := omega) only [↓reduceIte, gd_t, bd_s, nm_W, nm_I, I_add, I_sub, I_mul, I_neg, I_le_t, I_le_f, I_lt_t, I_lt_f, I_eq_t, I_eq_f, I_inb', I_ix', Int.toNat_natCast, decide_true, decide_false, Bool.not_false, Bool.not_true, if_true, if_false, wi_eq, wi_eq', wi_ne, wi_row, wi_2, N0, N1, N2, N3, N4, N5, N6, N7, N8, N9, N10, N11, N12, N13, N14, N15, N16, N17, N18, N19, N20, N21, N22, N23, N24, N25, N26, N27, N28, N29, N30, N31, N32, N33, N34, N35, N36, N37, N38, N39, N40, N41, N42, N43, N45, N48, N57, N59, N88, N89, N97, N99, N120, N121, N122, N179, N200, N255, N300, N400, N880, N900, N999, N1019, N50000000, N100000000, N1000000000, N2147483647, N2147483648, c7, a0, a1, a2, isb_0, Bool.false_and, Bool.true_and, bn_f]
          · simp (disch := omega) only [↓reduceIte, gd_t, bd_s, nm_W, nm_I, I_add, I_sub, I_mul, I_neg, I_le_t, I_le_f, I_lt_t, I_lt_f, I_eq_t, I_eq_f, I_inb', I_ix', Int.toNat_natCast, decide_true, decide_false, Bool.not_false, Bool.not_true, if_true, if_false, wi_eq, wi_eq', wi_ne, wi_row, wi_2, N0, N1, N2, N3, N4, N5, N6, N7, N8, N9, N10, N11, N12, N13, N14, N15, N16, N17, N18, N19, N20, N21, N22, N23, N24, N25, N26, N27, N28, N29, N30, N31, N32, N33, N34, N35, N36, N37, N38, N39, N40, N41, N42, N43, N45, N48, N57, N59, N88, N89, N97, N99, N120, N121, N122, N179, N200, N255, N300, N400, N880, N900, N999, N1019, N50000000, N100000000, N1000000000, N2147483647, N2147483648, e30, b0, b1, b2, isb_0, Bool.false_and, Bool.true_and, bn_f]
        | false =>
          rw [h2, bn_f] at a2 b2
          cases h3 : decide (k = 1 ∧ l = lw 3) with
          | true =>
            rw [h3, bn_t] at a3 b3
            constructor
            · simp (disch := omega) only [↓reduceIte, gd_t, bd_s, nm_W, nm_I, I_add, I_sub, I_mul, I_neg, I_le_t, I_le_f, I_lt_t, I_lt_f, I_eq_t, I_eq_f, I_inb', I_ix', Int.toNat_natCast, decide_true, decide_false, Bool.not_false, Bool.not_true, if_true, if_false, wi_eq, wi_eq', wi_ne, wi_row, wi_2, N0, N1, N2, N3, N4, N5, N6, N7, N8, N9, N10, N11, N12, N13, N14, N15, N16, N17, N18, N19, N20, N21, N22, N23, N24, N25, N26, N27, N28, N29, N30, N31, N32, N33, N34, N35, N36, N37, N38, N39, N40, N41, N42, N43, N45, N48, N57, N59, N88, N89, N97, N99, N120, N121, N122, N179, N200, N255, N300, N400, N880, N900, N999, N1019, N50000000, N100000000, N1000000000, N2147483647, N2147483648, c7, a0, a1, a2, a3, isb_0, Bool.false_and, Bool.true_and, bn_f]
            · simp (disch := omega) only [↓reduceIte, gd_t, bd_s, nm_W, nm_I, I_add, I_sub, I_mul, I_neg, I_le_t, I_le_f, I_lt_t, I_lt_f, I_eq_t, I_eq_f, I_inb', I_ix', Int.toNat_natCast, decide_true, decide_false, Bool.not_false, Bool.not_true, if_true, if_false, wi_eq, wi_eq', wi_ne, wi_row, wi_2, N0, N1, N2, N3, N4, N5, N6, N7, N8, N9, N10, N11, N12, N13, N14, N15, N16, N17, N18, N19, N20, N21, N22, N23, N24, N25, N26, N27, N28, N29, N30, N31, N32, N33, N34, N35, N36, N37, N38, N39, N40, N41, N42, N43, N45, N48, N57, N59, N88, N89, N97, N99, N120, N121, N122, N179, N200, N255, N300, N400, N880, N900, N999, N1019, N50000000, N100000000, N1000000000, N2147483647, N2147483648, e30, b0, b1, b2, b3, isb_0, Bool.false_and, Bool.true_and, bn_f]
          | false =>
            rw [h3, bn_f] at a3 b3
            constructor
            · simp (disch := omega) only [↓reduceIte, gd_t, bd_s, nm_W, nm_I, I_add, I_sub, I_mul, I_neg, I_le_t, I_le_f, I_lt_t, I_lt_f, I_eq_t, I_eq_f, I_inb', I_ix', Int.toNat_natCast, decide_true, decide_false, Bool.not_false, Bool.not_true, if_true, if_false, wi_eq, wi_eq', wi_ne, wi_row, wi_2, N0, N1, N2, N3, N4, N5, N6, N7, N8, N9, N10, N11, N12, N13, N14, N15, N16, N17, N18, N19, N20, N21, N22, N23, N24, N25, N26, N27, N28, N29, N30, N31, N32, N33, N34, N35, N36, N37, N38, N39, N40, N41, N42, N43, N45, N48, N57, N59, N88, N89, N97, N99, N120, N121, N122, N179, N200, N255, N300, N400, N880, N900, N999, N1019, N50000000, N100000000, N1000000000, N2147483647, N2147483648, c7, a0, a1, a2, a3, isb_1, Bool.true_and, bn_t]
            · simp (disch := omega) only [↓reduceIte, gd_t, bd_s, nm_W, nm_I, I_add, I_sub, I_mul, I_neg, I_le_t, I_le_f, I_lt_t, I_lt_f, I_eq_t, I_eq_f, I_inb', I_ix', Int.toNat_natCast, decide_true, decide_false, Bool.not_false, Bool.not_true, if_true, if_false, wi_eq, wi_eq', wi_ne, wi_row, wi_2, N0, N1, N2, N3, N4, N5, N6, N7, N8, N9, N10, N11, N12, N13, N14, N15, N16, N17, N18, N19, N20, N21, N22, N23, N24, N25, N26, N27, N28, N29, N30, N31, N32, N33, N34, N35, N36, N37, N38, N39, N40, N41, N42, N43, N45, N48, N57, N59, N88, N89, N97, N99, N120, N121, N122, N179, N200, N255, N300, N400, N880, N900, N999, N1019, N50000000, N100000000, N1000000000, N2147483647, N2147483648, e30, b0, b1, b2, b3, isb_1, Bool.true_and, bn_t]
  · have kd2 : kd ≠ 2 := fun q => k1 (k2.mp q)
    rw [decide_eq_false k1, Bool.false_and, bn_f]
    constructor
    · simp (disch := omega) only [↓reduceIte, gd_t, bd_s, nm_W, nm_I, I_add, I_sub, I_mul, I_neg, I_le_t, I_le_f, I_lt_t, I_lt_f, I_eq_t, I_eq_f, I_inb', I_ix', Int.toNat_natCast, decide_true, decide_false, Bool.not_false, Bool.not_true, if_true, if_false, wi_eq, wi_eq', wi_ne, wi_row, wi_2, N0, N1, N2, N3, N4, N5, N6, N7, N8, N9, N10, N11, N12, N13, N14, N15, N16, N17, N18, N19, N20, N21, N22, N23, N24, N25, N26, N27, N28, N29, N30, N31, N32, N33, N34, N35, N36, N37, N38, N39, N40, N41, N42, N43, N45, N48, N57, N59, N88, N89, N97, N99, N120, N121, N122, N179, N200, N255, N300, N400, N880, N900, N999, N1019, N50000000, N100000000, N1000000000, N2147483647, N2147483648, c7, isb_0]
    · simp (disch := omega) only [↓reduceIte, gd_t, bd_s, nm_W, nm_I, I_add, I_sub, I_mul, I_neg, I_le_t, I_le_f, I_lt_t, I_lt_f, I_eq_t, I_eq_f, I_inb', I_ix', Int.toNat_natCast, decide_true, decide_false, Bool.not_false, Bool.not_true, if_true, if_false, wi_eq, wi_eq', wi_ne, wi_row, wi_2, N0, N1, N2, N3, N4, N5, N6, N7, N8, N9, N10, N11, N12, N13, N14, N15, N16, N17, N18, N19, N20, N21, N22, N23, N24, N25, N26, N27, N28, N29, N30, N31, N32, N33, N34, N35, N36, N37, N38, N39, N40, N41, N42, N43, N45, N48, N57, N59, N88, N89, N97, N99, N120, N121, N122, N179, N200, N255, N300, N400, N880, N900, N999, N1019, N50000000, N100000000, N1000000000, N2147483647, N2147483648, e30, isb_0]
theorem nmb_1 {k : Int} {l : List Int} (h : nmb k l = true) : k = 1 := by
  unfold nmb at h
  rw [Bool.and_eq_true] at h
  exact of_decide_eq_true h.1
/-- names told so far: V of them -/
def NMS (σ τ : Wd) (V : Nat) (nm : Nat → List Int) : Prop := V ≤ 5 ∧ ∀ v, v < V → ltr (nm v) ∧ (nm v).length ≤ 6 ∧ σ.1 3 v = I (w27 (nm v)) ∧ τ.2.1 111 v = w64 (nm v)
theorem find_ok {σ τ : Wd} {V : Nat} {nm : Nat → List Int} {l : List Int} (h : NMS σ τ V nm) (hl : ltr l) (l6 : l.length ≤ 6) (e34 : τ.2.1 102 34 = w64 l) (e19 : τ.1 102 19 = I (V : Int)) : ∀ (r v n n' : Nat) (z : Int), z = (v : Int) → v + r = V → r < n → r < n' →
    (f_X5_venueNamed_2 n (I (w27 l)) (I (V : Int)) (I z) σ = some (I (-1), σ) ∧ f_X7_venueBy_2 n' (I z) τ = some (I (-1), τ))
    ∨ (∃ u : Nat, u < V ∧ f_X5_venueNamed_2 n (I (w27 l)) (I (V : Int)) (I z) σ = some (I (u : Int), σ) ∧ f_X7_venueBy_2 n' (I z) τ = some (I (u : Int), τ))
  | 0, v, n + 1, n' + 1, z, hz, hv, _, _ => by
    have h5 := h.1
    refine Or.inl ⟨?_, ?_⟩
    · rw [f_X5_venueNamed_2]
      simp (disch := omega) only [↓reduceIte, gd_t, bd_s, nm_W, nm_I, I_add, I_sub, I_mul, I_neg, I_le_t, I_le_f, I_lt_t, I_lt_f, I_eq_t, I_eq_f, I_inb', I_ix', Int.toNat_natCast, decide_true, decide_false, Bool.not_false, Bool.not_true, if_true, if_false, wi_eq, wi_eq', wi_ne, wi_row, wi_2, N0, N1, N2, N3, N4, N5, N6, N7, N8, N9, N10, N11, N12, N13, N14, N15, N16, N17, N18, N19, N20, N21, N22, N23, N24, N25, N26, N27, N28, N29, N30, N31, N32, N33, N34, N35, N36, N37, N38, N39, N40, N41, N42, N43, N45, N48, N57, N59, N88, N89, N97, N99, N120, N121, N122, N179, N200, N255, N300, N400, N880, N900, N999, N1019, N50000000, N100000000, N1000000000, N2147483647, N2147483648]
    · rw [f_X7_venueBy_2]
      simp (disch := omega) only [↓reduceIte, gd_t, bd_s, nm_W, nm_I, I_add, I_sub, I_mul, I_neg, I_le_t, I_le_f, I_lt_t, I_lt_f, I_eq_t, I_eq_f, I_inb', I_ix', Int.toNat_natCast, decide_true, decide_false, Bool.not_false, Bool.not_true, if_true, if_false, wi_eq, wi_eq', wi_ne, wi_row, wi_2, N0, N1, N2, N3, N4, N5, N6, N7, N8, N9, N10, N11, N12, N13, N14, N15, N16, N17, N18, N19, N20, N21, N22, N23, N24, N25, N26, N27, N28, N29, N30, N31, N32, N33, N34, N35, N36, N37, N38, N39, N40, N41, N42, N43, N45, N48, N57, N59, N88, N89, N97, N99, N120, N121, N122, N179, N200, N255, N300, N400, N880, N900, N999, N1019, N50000000, N100000000, N1000000000, N2147483647, N2147483648, e19]
  | r + 1, v, n + 1, n' + 1, z, hz, hv, hn1, hn2 => by
    have h5 := h.1
    obtain ⟨a1, a2, a3, a4⟩ := h.2 v (by omega)
    have t1 : z.toNat = v := by omega
    have b1 := w27_6 a1 a2
    have b2 := w27_6 hl l6
    by_cases c : nm v = l
    · refine Or.inr ⟨v, by omega, ?_, ?_⟩
      · rw [f_X5_venueNamed_2]
        rw [c] at a3
        simp (disch := omega) only [↓reduceIte, gd_t, bd_s, nm_W, nm_I, I_add, I_sub, I_mul, I_neg, I_le_t, I_le_f, I_lt_t, I_lt_f, I_eq_t, I_eq_f, I_inb', I_ix', Int.toNat_natCast, decide_true, decide_false, Bool.not_false, Bool.not_true, if_true, if_false, wi_eq, wi_eq', wi_ne, wi_row, wi_2, N0, N1, N2, N3, N4, N5, N6, N7, N8, N9, N10, N11, N12, N13, N14, N15, N16, N17, N18, N19, N20, N21, N22, N23, N24, N25, N26, N27, N28, N29, N30, N31, N32, N33, N34, N35, N36, N37, N38, N39, N40, N41, N42, N43, N45, N48, N57, N59, N88, N89, N97, N99, N120, N121, N122, N179, N200, N255, N300, N400, N880, N900, N999, N1019, N50000000, N100000000, N1000000000, N2147483647, N2147483648, t1, a3]
        rw [hz]
      · rw [f_X7_venueBy_2]
        rw [c] at a4
        simp (disch := omega) only [↓reduceIte, gd_t, bd_s, nm_W, nm_I, I_add, I_sub, I_mul, I_neg, I_le_t, I_le_f, I_lt_t, I_lt_f, I_eq_t, I_eq_f, I_inb', I_ix', Int.toNat_natCast, decide_true, decide_false, Bool.not_false, Bool.not_true, if_true, if_false, wi_eq, wi_eq', wi_ne, wi_row, wi_2, N0, N1, N2, N3, N4, N5, N6, N7, N8, N9, N10, N11, N12, N13, N14, N15, N16, N17, N18, N19, N20, N21, N22, N23, N24, N25, N26, N27, N28, N29, N30, N31, N32, N33, N34, N35, N36, N37, N38, N39, N40, N41, N42, N43, N45, N48, N57, N59, N88, N89, N97, N99, N120, N121, N122, N179, N200, N255, N300, N400, N880, N900, N999, N1019, N50000000, N100000000, N1000000000, N2147483647, N2147483648, t1, a4, e34, e19, lg_0]
        rw [hz]
    · have c1 : w27 (nm v) ≠ w27 l := fun q => c (w27_inj _ _ a1 hl q)
      have c2 : ¬ w64 (nm v) = w64 l := fun q => c (w64_inj a1 hl a2 l6 q)
      have ih := find_ok h hl l6 e34 e19 r (v + 1) n n' (z + 1) (by omega) (by omega) (by omega) (by omega)
      have s1 : f_X5_venueNamed_2 (n + 1) (I (w27 l)) (I (V : Int)) (I z) σ = f_X5_venueNamed_2 n (I (w27 l)) (I (V : Int)) (I (z + 1)) σ := by
        rw [f_X5_venueNamed_2]
        clear ih
        simp (disch := omega) only [↓reduceIte, gd_t, bd_s, nm_W, nm_I, I_add, I_sub, I_mul, I_neg, I_le_t, I_le_f, I_lt_t, I_lt_f, I_eq_t, I_eq_f, I_inb', I_ix', Int.toNat_natCast, decide_true, decide_false, Bool.not_false, Bool.not_true, if_true, if_false, wi_eq, wi_eq', wi_ne, wi_row, wi_2, N0, N1, N2, N3, N4, N5, N6, N7, N8, N9, N10, N11, N12, N13, N14, N15, N16, N17, N18, N19, N20, N21, N22, N23, N24, N25, N26, N27, N28, N29, N30, N31, N32, N33, N34, N35, N36, N37, N38, N39, N40, N41, N42, N43, N45, N48, N57, N59, N88, N89, N97, N99, N120, N121, N122, N179, N200, N255, N300, N400, N880, N900, N999, N1019, N50000000, N100000000, N1000000000, N2147483647, N2147483648, t1, a3]
      have s2 : f_X7_venueBy_2 (n' + 1) (I z) τ = f_X7_venueBy_2 n' (I (z + 1)) τ := by
        rw [f_X7_venueBy_2]
        clear ih
        simp (disch := omega) only [↓reduceIte, gd_t, bd_s, nm_W, nm_I, I_add, I_sub, I_mul, I_neg, I_le_t, I_le_f, I_lt_t, I_lt_f, I_eq_t, I_eq_f, I_inb', I_ix', Int.toNat_natCast, decide_true, decide_false, Bool.not_false, Bool.not_true, if_true, if_false, wi_eq, wi_eq', wi_ne, wi_row, wi_2, N0, N1, N2, N3, N4, N5, N6, N7, N8, N9, N10, N11, N12, N13, N14, N15, N16, N17, N18, N19, N20, N21, N22, N23, N24, N25, N26, N27, N28, N29, N30, N31, N32, N33, N34, N35, N36, N37, N38, N39, N40, N41, N42, N43, N45, N48, N57, N59, N88, N89, N97, N99, N120, N121, N122, N179, N200, N255, N300, N400, N880, N900, N999, N1019, N50000000, N100000000, N1000000000, N2147483647, N2147483648, t1, a4, e34, e19, lg_0, c2]
      rw [s1, s2]
      exact ih
end
section
/-! PURE: the text: a venue that is told; kind; fee; the start of a line -/
theorem found_ok {m N pl V : Nat} {bt : Nat → Int} {σ τ : Wd} {k n : Int} {l : List Int} {nm : Nat → List Int} (hm : 10 < m) (hB : BY σ τ N bt) (hT : TK σ τ N bt pl k l n) (hN : NMS σ τ V nm) (c3 : σ.1 m 3 = I (V : Int)) (e19 : τ.1 102 19 = I (V : Int)) :
    (∃ (σ' τ' : Wd), f_X5_findsVenue m σ = some (I 0, σ') ∧ f_X7_knownVenue τ = some (I 0, τ') ∧ BD σ' τ' ∧ CG σ σ' ∧ RX τ τ')
    ∨ (∃ (u : Nat), u < V ∧ k = 1 ∧ f_X5_findsVenue m σ = some (I 1, wi σ 1 10 (I (u : Int))) ∧ f_X7_knownVenue τ = some (I (u : Int), τ) ∧ TK (wi σ 1 10 (I (u : Int))) τ N bt pl k l n) := by
  obtain ⟨a, b⟩ := name_ok hB hT
  have e33 := (TK_33 hT).1
  have h5 := hN.1
  cases c : nmb k l with
  | false =>
    rw [c, bn_f] at a b
    refine Or.inl ?_
    obtain ⟨σ', τ', q1, q2, q3, q4, q5⟩ := bad_ok (c := 1) hT (by omega)
    obtain ⟨f, pf, -, -, hF⟩ := id q3
    have e2 := ft_flaw (c := I 2) hF
    obtain ⟨f1, f2, f3, f4, f5⟩ := hF
    refine ⟨σ', τ', ?_, ?_, q3, q4, q5⟩
    · unfold f_X5_findsVenue
      simp (disch := omega) only [↓reduceIte, gd_t, bd_s, nm_W, nm_I, I_add, I_sub, I_mul, I_neg, I_le_t, I_le_f, I_lt_t, I_lt_f, I_eq_t, I_eq_f, I_inb', I_ix', Int.toNat_natCast, decide_true, decide_false, Bool.not_false, Bool.not_true, if_true, if_false, wi_eq, wi_eq', wi_ne, wi_row, wi_2, N0, N1, N2, N3, N4, N5, N6, N7, N8, N9, N10, N11, N12, N13, N14, N15, N16, N17, N18, N19, N20, N21, N22, N23, N24, N25, N26, N27, N28, N29, N30, N31, N32, N33, N34, N35, N36, N37, N38, N39, N40, N41, N42, N43, N45, N48, N57, N59, N88, N89, N97, N99, N120, N121, N122, N179, N200, N255, N300, N400, N880, N900, N999, N1019, N50000000, N100000000, N1000000000, N2147483647, N2147483648, a, q1, isb_0]
    · unfold f_X7_knownVenue f_X7_knownVenue_12 f_X7_knownVenue_27 f_X7_knownVenue_38 f_X7_knownVenue_50
      simp (disch := omega) only [↓reduceIte, gd_t, bd_s, nm_W, nm_I, I_add, I_sub, I_mul, I_neg, I_le_t, I_le_f, I_lt_t, I_lt_f, I_eq_t, I_eq_f, I_inb', I_ix', Int.toNat_natCast, decide_true, decide_false, Bool.not_false, Bool.not_true, if_true, if_false, wi_eq, wi_eq', wi_ne, wi_row, wi_2, N0, N1, N2, N3, N4, N5, N6, N7, N8, N9, N10, N11, N12, N13, N14, N15, N16, N17, N18, N19, N20, N21, N22, N23, N24, N25, N26, N27, N28, N29, N30, N31, N32, N33, N34, N35, N36, N37, N38, N39, N40, N41, N42, N43, N45, N48, N57, N59, N88, N89, N97, N99, N120, N121, N122, N179, N200, N255, N300, N400, N880, N900, N999, N1019, N50000000, N100000000, N1000000000, N2147483647, N2147483648, b, q2, f1, e2]
  | true =>
    rw [c, bn_t] at a b
    obtain ⟨t1, t2, t3, t4⟩ := TK_1 hT (nmb_1 c)
    have fd := find_ok hN t1 t2 t4 e19 V 0 FU FU 0 rfl (by omega) (by show _ < 6000; omega) (by show _ < 6000; omega)
    rcases fd with ⟨p1, p2⟩ | ⟨u, hu, p1, p2⟩
    · refine Or.inl ?_
      have hT1 : TK (wi σ 1 10 (I (-1))) τ N bt pl k l n := TK_c hT (fun i hi => wi_ne hi) (fun _ _ _ => rfl) rfl
      obtain ⟨σ', τ', q1, q2, q3, q4, q5⟩ := bad_ok (c := 2) hT1 (by omega)
      obtain ⟨f, pf, -, -, hF⟩ := id q3
      obtain ⟨f1, f2, f3, f4, f5⟩ := hF
      refine ⟨σ', τ', ?_, ?_, q3, CGt CGw q4, q5⟩
      · unfold f_X5_findsVenue f_X5_findsVenue_50
        simp (disch := omega) only [↓reduceIte, gd_t, bd_s, nm_W, nm_I, I_add, I_sub, I_mul, I_neg, I_le_t, I_le_f, I_lt_t, I_lt_f, I_eq_t, I_eq_f, I_inb', I_ix', Int.toNat_natCast, decide_true, decide_false, Bool.not_false, Bool.not_true, if_true, if_false, wi_eq, wi_eq', wi_ne, wi_row, wi_2, N0, N1, N2, N3, N4, N5, N6, N7, N8, N9, N10, N11, N12, N13, N14, N15, N16, N17, N18, N19, N20, N21, N22, N23, N24, N25, N26, N27, N28, N29, N30, N31, N32, N33, N34, N35, N36, N37, N38, N39, N40, N41, N42, N43, N45, N48, N57, N59, N88, N89, N97, N99, N120, N121, N122, N179, N200, N255, N300, N400, N880, N900, N999, N1019, N50000000, N100000000, N1000000000, N2147483647, N2147483648, a, f_X5_venueNamed, t3, c3, p1, q1, isb_0]
      · unfold f_X7_knownVenue f_X7_knownVenue_12 f_X7_knownVenue_27 f_X7_knownVenue_38 f_X7_knownVenue_50
        simp (disch := omega) only [↓reduceIte, gd_t, bd_s, nm_W, nm_I, I_add, I_sub, I_mul, I_neg, I_le_t, I_le_f, I_lt_t, I_lt_f, I_eq_t, I_eq_f, I_inb', I_ix', Int.toNat_natCast, decide_true, decide_false, Bool.not_false, Bool.not_true, if_true, if_false, wi_eq, wi_eq', wi_ne, wi_row, wi_2, N0, N1, N2, N3, N4, N5, N6, N7, N8, N9, N10, N11, N12, N13, N14, N15, N16, N17, N18, N19, N20, N21, N22, N23, N24, N25, N26, N27, N28, N29, N30, N31, N32, N33, N34, N35, N36, N37, N38, N39, N40, N41, N42, N43, N45, N48, N57, N59, N88, N89, N97, N99, N120, N121, N122, N179, N200, N255, N300, N400, N880, N900, N999, N1019, N50000000, N100000000, N1000000000, N2147483647, N2147483648, b, e33, f_X7_venueBy, p2, q2, f1]
    · refine Or.inr ⟨u, hu, nmb_1 c, ?_, ?_, TK_c hT (fun i hi => wi_ne hi) (fun _ _ _ => rfl) rfl⟩
      · unfold f_X5_findsVenue f_X5_findsVenue_45 f_X5_findsVenue_50
        simp (disch := omega) only [↓reduceIte, gd_t, bd_s, nm_W, nm_I, I_add, I_sub, I_mul, I_neg, I_le_t, I_le_f, I_lt_t, I_lt_f, I_eq_t, I_eq_f, I_inb', I_ix', Int.toNat_natCast, decide_true, decide_false, Bool.not_false, Bool.not_true, if_true, if_false, wi_eq, wi_eq', wi_ne, wi_row, wi_2, N0, N1, N2, N3, N4, N5, N6, N7, N8, N9, N10, N11, N12, N13, N14, N15, N16, N17, N18, N19, N20, N21, N22, N23, N24, N25, N26, N27, N28, N29, N30, N31, N32, N33, N34, N35, N36, N37, N38, N39, N40, N41, N42, N43, N45, N48, N57, N59, N88, N89, N97, N99, N120, N121, N122, N179, N200, N255, N300, N400, N880, N900, N999, N1019, N50000000, N100000000, N1000000000, N2147483647, N2147483648, a, f_X5_venueNamed, t3, c3, p1, isb_1]
      · unfold f_X7_knownVenue f_X7_knownVenue_12 f_X7_knownVenue_27 f_X7_knownVenue_38 f_X7_knownVenue_50
        simp (disch := omega) only [↓reduceIte, gd_t, bd_s, nm_W, nm_I, I_add, I_sub, I_mul, I_neg, I_le_t, I_le_f, I_lt_t, I_lt_f, I_eq_t, I_eq_f, I_inb', I_ix', Int.toNat_natCast, decide_true, decide_false, Bool.not_false, Bool.not_true, if_true, if_false, wi_eq, wi_eq', wi_ne, wi_row, wi_2, N0, N1, N2, N3, N4, N5, N6, N7, N8, N9, N10, N11, N12, N13, N14, N15, N16, N17, N18, N19, N20, N21, N22, N23, N24, N25, N26, N27, N28, N29, N30, N31, N32, N33, N34, N35, N36, N37, N38, N39, N40, N41, N42, N43, N45, N48, N57, N59, N88, N89, N97, N99, N120, N121, N122, N179, N200, N255, N300, N400, N880, N900, N999, N1019, N50000000, N100000000, N1000000000, N2147483647, N2147483648, b, e33, f_X7_venueBy, p2]
theorem kind_ok {N pl : Nat} {bt : Nat → Int} {σ τ : Wd} {k n : Int} {l : List Int} (hB : BY σ τ N bt) (hT : TK σ τ N bt pl k l n) :
    (∃ (σ' τ' : Wd), f_X5_takesKind σ = some (I 0, σ') ∧ f_X7_readKind τ = some (I (-1), τ') ∧ BD σ' τ' ∧ CG σ σ' ∧ RX τ τ')
    ∨ (∃ (σ' τ' : Wd) (v : Int) (pl' : Nat) (k' : Int) (l' : List Int) (n' : Int), f_X5_takesKind σ = some (I 1, σ') ∧ f_X7_readKind τ = some (I v, τ') ∧ 0 ≤ v ∧ v ≤ 2 ∧ σ'.1 1 10 = I v ∧ TK σ' τ' N bt pl' k' l' n' ∧ pl ≤ pl' ∧ CG σ σ' ∧ RX τ τ') := by
  obtain ⟨a6, b6⟩ := isw_ok (w := 6) (by decide) hB hT
  obtain ⟨a7, b7⟩ := isw_ok (w := 7) (by decide) hB hT
  obtain ⟨a8, b8⟩ := isw_ok (w := 8) (by decide) hB hT
  have good : ∀ v : Int, k = 1 → ∃ (σ' τ' : Wd) (pl' : Nat) (k' : Int) (l' : List Int) (n' : Int), f_X5_takesKind_57 (wi σ 1 10 (I v)) = some (I 1, σ') ∧ f_X7_next τ = some (0, τ') ∧ σ'.1 1 10 = I v ∧ TK σ' τ' N bt pl' k' l' n' ∧ pl ≤ pl' ∧ CG σ σ' ∧ RX τ τ' := fun v hk => by
    have hT1 : TK (wi σ 1 10 (I v)) τ N bt pl k l n := TK_c hT (fun i hi => wi_ne hi) (fun _ _ _ => rfl) rfl
    obtain ⟨σ', τ', pl', k', l', n', q1, q2, q3, q4, q5, q6⟩ := step_ok (BY_f hB CGw RXr) hT1 (by omega)
    refine ⟨σ', τ', pl', k', l', n', ?_, q2, by rw [q5.2.1, wi_eq], q3, q4.1, CGt CGw (CFG q5), q6⟩
    unfold f_X5_takesKind_57
    simp (disch := omega) only [↓reduceIte, gd_t, bd_s, nm_W, nm_I, I_add, I_sub, I_mul, I_neg, I_le_t, I_le_f, I_lt_t, I_lt_f, I_eq_t, I_eq_f, I_inb', I_ix', Int.toNat_natCast, decide_true, decide_false, Bool.not_false, Bool.not_true, if_true, if_false, wi_eq, wi_eq', wi_ne, wi_row, wi_2, N0, N1, N2, N3, N4, N5, N6, N7, N8, N9, N10, N11, N12, N13, N14, N15, N16, N17, N18, N19, N20, N21, N22, N23, N24, N25, N26, N27, N28, N29, N30, N31, N32, N33, N34, N35, N36, N37, N38, N39, N40, N41, N42, N43, N45, N48, N57, N59, N88, N89, N97, N99, N120, N121, N122, N179, N200, N255, N300, N400, N880, N900, N999, N1019, N50000000, N100000000, N1000000000, N2147483647, N2147483648, q1, isb_1]
  unfold f_X5_takesKind f_X7_readKind f_X7_readKind_40 f_X7_readKind_51
  by_cases c6 : k = 1 ∧ l = lw 6
  · rw [decide_eq_true c6, bn_t] at a6 b6
    obtain ⟨σ', τ', pl', k', l', n', q1, q2, q3⟩ := good 0 c6.1
    refine Or.inr ⟨σ', τ', 0, pl', k', l', n', ?_, ?_, by omega, by omega, q3⟩
    · simp (disch := omega) only [↓reduceIte, gd_t, bd_s, nm_W, nm_I, I_add, I_sub, I_mul, I_neg, I_le_t, I_le_f, I_lt_t, I_lt_f, I_eq_t, I_eq_f, I_inb', I_ix', Int.toNat_natCast, decide_true, decide_false, Bool.not_false, Bool.not_true, if_true, if_false, wi_eq, wi_eq', wi_ne, wi_row, wi_2, N0, N1, N2, N3, N4, N5, N6, N7, N8, N9, N10, N11, N12, N13, N14, N15, N16, N17, N18, N19, N20, N21, N22, N23, N24, N25, N26, N27, N28, N29, N30, N31, N32, N33, N34, N35, N36, N37, N38, N39, N40, N41, N42, N43, N45, N48, N57, N59, N88, N89, N97, N99, N120, N121, N122, N179, N200, N255, N300, N400, N880, N900, N999, N1019, N50000000, N100000000, N1000000000, N2147483647, N2147483648, a6, q1]
    · simp (disch := omega) only [↓reduceIte, gd_t, bd_s, nm_W, nm_I, I_add, I_sub, I_mul, I_neg, I_le_t, I_le_f, I_lt_t, I_lt_f, I_eq_t, I_eq_f, I_inb', I_ix', Int.toNat_natCast, decide_true, decide_false, Bool.not_false, Bool.not_true, if_true, if_false, wi_eq, wi_eq', wi_ne, wi_row, wi_2, N0, N1, N2, N3, N4, N5, N6, N7, N8, N9, N10, N11, N12, N13, N14, N15, N16, N17, N18, N19, N20, N21, N22, N23, N24, N25, N26, N27, N28, N29, N30, N31, N32, N33, N34, N35, N36, N37, N38, N39, N40, N41, N42, N43, N45, N48, N57, N59, N88, N89, N97, N99, N120, N121, N122, N179, N200, N255, N300, N400, N880, N900, N999, N1019, N50000000, N100000000, N1000000000, N2147483647, N2147483648, b6, q2]
  · rw [decide_eq_false c6, bn_f] at a6 b6
    by_cases c7 : k = 1 ∧ l = lw 7
    · rw [decide_eq_true c7, bn_t] at a7 b7
      obtain ⟨σ', τ', pl', k', l', n', q1, q2, q3⟩ := good 1 c7.1
      refine Or.inr ⟨σ', τ', 1, pl', k', l', n', ?_, ?_, by omega, by omega, q3⟩
      · simp (disch := omega) only [↓reduceIte, gd_t, bd_s, nm_W, nm_I, I_add, I_sub, I_mul, I_neg, I_le_t, I_le_f, I_lt_t, I_lt_f, I_eq_t, I_eq_f, I_inb', I_ix', Int.toNat_natCast, decide_true, decide_false, Bool.not_false, Bool.not_true, if_true, if_false, wi_eq, wi_eq', wi_ne, wi_row, wi_2, N0, N1, N2, N3, N4, N5, N6, N7, N8, N9, N10, N11, N12, N13, N14, N15, N16, N17, N18, N19, N20, N21, N22, N23, N24, N25, N26, N27, N28, N29, N30, N31, N32, N33, N34, N35, N36, N37, N38, N39, N40, N41, N42, N43, N45, N48, N57, N59, N88, N89, N97, N99, N120, N121, N122, N179, N200, N255, N300, N400, N880, N900, N999, N1019, N50000000, N100000000, N1000000000, N2147483647, N2147483648, a6, a7, q1]
      · simp (disch := omega) only [↓reduceIte, gd_t, bd_s, nm_W, nm_I, I_add, I_sub, I_mul, I_neg, I_le_t, I_le_f, I_lt_t, I_lt_f, I_eq_t, I_eq_f, I_inb', I_ix', Int.toNat_natCast, decide_true, decide_false, Bool.not_false, Bool.not_true, if_true, if_false, wi_eq, wi_eq', wi_ne, wi_row, wi_2, N0, N1, N2, N3, N4, N5, N6, N7, N8, N9, N10, N11, N12, N13, N14, N15, N16, N17, N18, N19, N20, N21, N22, N23, N24, N25, N26, N27, N28, N29, N30, N31, N32, N33, N34, N35, N36, N37, N38, N39, N40, N41, N42, N43, N45, N48, N57, N59, N88, N89, N97, N99, N120, N121, N122, N179, N200, N255, N300, N400, N880, N900, N999, N1019, N50000000, N100000000, N1000000000, N2147483647, N2147483648, b6, b7, q2]
    · rw [decide_eq_false c7, bn_f] at a7 b7
      by_cases c8 : k = 1 ∧ l = lw 8
      · rw [decide_eq_true c8, bn_t] at a8 b8
        obtain ⟨σ', τ', pl', k', l', n', q1, q2, q3⟩ := good 2 c8.1
        refine Or.inr ⟨σ', τ', 2, pl', k', l', n', ?_, ?_, by omega, by omega, q3⟩
        · simp (disch := omega) only [↓reduceIte, gd_t, bd_s, nm_W, nm_I, I_add, I_sub, I_mul, I_neg, I_le_t, I_le_f, I_lt_t, I_lt_f, I_eq_t, I_eq_f, I_inb', I_ix', Int.toNat_natCast, decide_true, decide_false, Bool.not_false, Bool.not_true, if_true, if_false, wi_eq, wi_eq', wi_ne, wi_row, wi_2, N0, N1, N2, N3, N4, N5, N6, N7, N8, N9, N10, N11, N12, N13, N14, N15, N16, N17, N18, N19, N20, N21, N22, N23, N24, N25, N26, N27, N28, N29, N30, N31, N32, N33, N34, N35, N36, N37, N38, N39, N40, N41, N42, N43, N45, N48, N57, N59, N88, N89, N97, N99, N120, N121, N122, N179, N200, N255, N300, N400, N880, N900, N999, N1019, N50000000, N100000000, N1000000000, N2147483647, N2147483648, a6, a7, a8, q1]
        · simp (disch := omega) only [↓reduceIte, gd_t, bd_s, nm_W, nm_I, I_add, I_sub, I_mul, I_neg, I_le_t, I_le_f, I_lt_t, I_lt_f, I_eq_t, I_eq_f, I_inb', I_ix', Int.toNat_natCast, decide_true, decide_false, Bool.not_false, Bool.not_true, if_true, if_false, wi_eq, wi_eq', wi_ne, wi_row, wi_2, N0, N1, N2, N3, N4, N5, N6, N7, N8, N9, N10, N11, N12, N13, N14, N15, N16, N17, N18, N19, N20, N21, N22, N23, N24, N25, N26, N27, N28, N29, N30, N31, N32, N33, N34, N35, N36, N37, N38, N39, N40, N41, N42, N43, N45, N48, N57, N59, N88, N89, N97, N99, N120, N121, N122, N179, N200, N255, N300, N400, N880, N900, N999, N1019, N50000000, N100000000, N1000000000, N2147483647, N2147483648, b6, b7, b8, q2]
      · rw [decide_eq_false c8, bn_f] at a8 b8
        obtain ⟨σ', τ', q1, q2, q3, q4, q5⟩ := bad_ok (c := 1) hT (by omega)
        obtain ⟨f, pf, -, -, hF⟩ := id q3
        have en := ft_next hF
        refine Or.inl ⟨σ', τ', ?_, ?_, q3, q4, q5⟩
        · simp (disch := omega) only [↓reduceIte, gd_t, bd_s, nm_W, nm_I, I_add, I_sub, I_mul, I_neg, I_le_t, I_le_f, I_lt_t, I_lt_f, I_eq_t, I_eq_f, I_inb', I_ix', Int.toNat_natCast, decide_true, decide_false, Bool.not_false, Bool.not_true, if_true, if_false, wi_eq, wi_eq', wi_ne, wi_row, wi_2, N0, N1, N2, N3, N4, N5, N6, N7, N8, N9, N10, N11, N12, N13, N14, N15, N16, N17, N18, N19, N20, N21, N22, N23, N24, N25, N26, N27, N28, N29, N30, N31, N32, N33, N34, N35, N36, N37, N38, N39, N40, N41, N42, N43, N45, N48, N57, N59, N88, N89, N97, N99, N120, N121, N122, N179, N200, N255, N300, N400, N880, N900, N999, N1019, N50000000, N100000000, N1000000000, N2147483647, N2147483648, a6, a7, a8, q1, isb_0]
        · simp (disch := omega) only [↓reduceIte, gd_t, bd_s, nm_W, nm_I, I_add, I_sub, I_mul, I_neg, I_le_t, I_le_f, I_lt_t, I_lt_f, I_eq_t, I_eq_f, I_inb', I_ix', Int.toNat_natCast, decide_true, decide_false, Bool.not_false, Bool.not_true, if_true, if_false, wi_eq, wi_eq', wi_ne, wi_row, wi_2, N0, N1, N2, N3, N4, N5, N6, N7, N8, N9, N10, N11, N12, N13, N14, N15, N16, N17, N18, N19, N20, N21, N22, N23, N24, N25, N26, N27, N28, N29, N30, N31, N32, N33, N34, N35, N36, N37, N38, N39, N40, N41, N42, N43, N45, N48, N57, N59, N88, N89, N97, N99, N120, N121, N122, N179, N200, N255, N300, N400, N880, N900, N999, N1019, N50000000, N100000000, N1000000000, N2147483647, N2147483648, b6, b7, b8, q2, en]
theorem rFee_as {τ : Wd} : f_X7_readFeeOf τ = bd (bd (f_X7_isWord 10 τ) fun r1 σ2 => if r1 = 0 then (bd (f_X7_flaw (1 : Int32) σ2) fun _ σ3 => (f_X7_next σ3)) else (f_X7_next σ2)) (fun _ σ1 => bd (f_X7_isSign (45 : Int32) σ1) fun r2 σ3 => if r2 = 0 then (f_X7_readFeeOf_33 r2 σ3) else (bd (f_X7_next σ3) fun _ σ4 => (f_X7_readFeeOf_33 r2 σ4))) := by
  unfold f_X7_readFeeOf f_X7_readFeeOf_14
  rw [bd_as]
  cases f_X7_isWord 10 τ with
  | none => rfl
  | some p =>
    obtain ⟨r, s⟩ := p
    rw [bd_s, bd_s]
    by_cases c : r = 0
    · rw [if_pos c, if_pos c, bd_as]
    · rw [if_neg c, if_neg c]
theorem feeN_ok {N pl : Nat} {bt : Nat → Int} {σ τ : Wd} {k n x : Int} {l : List Int} (hx : x = 0 ∨ x = 1) (hB : BY σ τ N bt) (hT : TK σ τ N bt pl k l n) :
    (∃ (σ' τ' : Wd) (y : Int32), f_X5_takesFee_33 (I x) σ = some (I 0, σ') ∧ f_X7_readFeeOf_33 (I x) τ = some (y, τ') ∧ BD σ' τ' ∧ CG σ σ' ∧ RX τ τ')
    ∨ (∃ (σ' τ' : Wd) (v : Int) (pl' : Nat) (k' : Int) (l' : List Int) (n' : Int), f_X5_takesFee_33 (I x) σ = some (I 1, σ') ∧ f_X7_readFeeOf_33 (I x) τ = some (I v, τ') ∧ -9 ≤ v ∧ v ≤ 9 ∧ σ'.1 1 10 = I v ∧ TK σ' τ' N bt pl' k' l' n' ∧ pl ≤ pl' ∧ CG σ σ' ∧ RX τ τ') := by
  rcases whole_ok (lo := 0) (hi := 9) hB hT (by omega) (by omega) with ⟨σ2, τ2, p1, p2, p3⟩ | ⟨σ2, τ2, v, pl2, k2, l2, n2, p1, p2, p3, p4, p5, p6, p7, p8, p9⟩
  · rcases hx with hx | hx
    · refine Or.inl ⟨σ2, τ2, I 0, ?_, ?_, p3⟩
      · unfold f_X5_takesFee_33
        simp (disch := omega) only [↓reduceIte, gd_t, bd_s, nm_W, nm_I, I_add, I_sub, I_mul, I_neg, I_le_t, I_le_f, I_lt_t, I_lt_f, I_eq_t, I_eq_f, I_inb', I_ix', Int.toNat_natCast, decide_true, decide_false, Bool.not_false, Bool.not_true, if_true, if_false, wi_eq, wi_eq', wi_ne, wi_row, wi_2, N0, N1, N2, N3, N4, N5, N6, N7, N8, N9, N10, N11, N12, N13, N14, N15, N16, N17, N18, N19, N20, N21, N22, N23, N24, N25, N26, N27, N28, N29, N30, N31, N32, N33, N34, N35, N36, N37, N38, N39, N40, N41, N42, N43, N45, N48, N57, N59, N88, N89, N97, N99, N120, N121, N122, N179, N200, N255, N300, N400, N880, N900, N999, N1019, N50000000, N100000000, N1000000000, N2147483647, N2147483648, p1, isb_0]
      · unfold f_X7_readFeeOf_33 f_X7_readFeeOf_51
        simp (disch := omega) only [↓reduceIte, gd_t, bd_s, nm_W, nm_I, I_add, I_sub, I_mul, I_neg, I_le_t, I_le_f, I_lt_t, I_lt_f, I_eq_t, I_eq_f, I_inb', I_ix', Int.toNat_natCast, decide_true, decide_false, Bool.not_false, Bool.not_true, if_true, if_false, wi_eq, wi_eq', wi_ne, wi_row, wi_2, N0, N1, N2, N3, N4, N5, N6, N7, N8, N9, N10, N11, N12, N13, N14, N15, N16, N17, N18, N19, N20, N21, N22, N23, N24, N25, N26, N27, N28, N29, N30, N31, N32, N33, N34, N35, N36, N37, N38, N39, N40, N41, N42, N43, N45, N48, N57, N59, N88, N89, N97, N99, N120, N121, N122, N179, N200, N255, N300, N400, N880, N900, N999, N1019, N50000000, N100000000, N1000000000, N2147483647, N2147483648, p2]
    · refine Or.inl ⟨σ2, τ2, I 0, ?_, ?_, p3⟩
      · unfold f_X5_takesFee_33
        simp (disch := omega) only [↓reduceIte, gd_t, bd_s, nm_W, nm_I, I_add, I_sub, I_mul, I_neg, I_le_t, I_le_f, I_lt_t, I_lt_f, I_eq_t, I_eq_f, I_inb', I_ix', Int.toNat_natCast, decide_true, decide_false, Bool.not_false, Bool.not_true, if_true, if_false, wi_eq, wi_eq', wi_ne, wi_row, wi_2, N0, N1, N2, N3, N4, N5, N6, N7, N8, N9, N10, N11, N12, N13, N14, N15, N16, N17, N18, N19, N20, N21, N22, N23, N24, N25, N26, N27, N28, N29, N30, N31, N32, N33, N34, N35, N36, N37, N38, N39, N40, N41, N42, N43, N45, N48, N57, N59, N88, N89, N97, N99, N120, N121, N122, N179, N200, N255, N300, N400, N880, N900, N999, N1019, N50000000, N100000000, N1000000000, N2147483647, N2147483648, p1, isb_0]
      · unfold f_X7_readFeeOf_33 f_X7_readFeeOf_51
        simp (disch := omega) only [↓reduceIte, gd_t, bd_s, nm_W, nm_I, I_add, I_sub, I_mul, I_neg, I_le_t, I_le_f, I_lt_t, I_lt_f, I_eq_t, I_eq_f, I_inb', I_ix', Int.toNat_natCast, decide_true, decide_false, Bool.not_false, Bool.not_true, if_true, if_false, wi_eq, wi_eq', wi_ne, wi_row, wi_2, N0, N1, N2, N3, N4, N5, N6, N7, N8, N9, N10, N11, N12, N13, N14, N15, N16, N17, N18, N19, N20, N21, N22, N23, N24, N25, N26, N27, N28, N29, N30, N31, N32, N33, N34, N35, N36, N37, N38, N39, N40, N41, N42, N43, N45, N48, N57, N59, N88, N89, N97, N99, N120, N121, N122, N179, N200, N255, N300, N400, N880, N900, N999, N1019, N50000000, N100000000, N1000000000, N2147483647, N2147483648, p2]
        rfl
  · rcases hx with hx | hx
    · refine Or.inr ⟨wi σ2 1 10 (I v), τ2, v, pl2, k2, l2, n2, ?_, ?_, by omega, by omega, wi_eq, TK_c p6 (fun i hi => wi_ne hi) (fun _ _ _ => rfl) rfl, p7, CGt p8 CGw, p9⟩
      · unfold f_X5_takesFee_33 f_X5_takesFee_62
        simp (disch := omega) only [↓reduceIte, gd_t, bd_s, nm_W, nm_I, I_add, I_sub, I_mul, I_neg, I_le_t, I_le_f, I_lt_t, I_lt_f, I_eq_t, I_eq_f, I_inb', I_ix', Int.toNat_natCast, decide_true, decide_false, Bool.not_false, Bool.not_true, if_true, if_false, wi_eq, wi_eq', wi_ne, wi_row, wi_2, N0, N1, N2, N3, N4, N5, N6, N7, N8, N9, N10, N11, N12, N13, N14, N15, N16, N17, N18, N19, N20, N21, N22, N23, N24, N25, N26, N27, N28, N29, N30, N31, N32, N33, N34, N35, N36, N37, N38, N39, N40, N41, N42, N43, N45, N48, N57, N59, N88, N89, N97, N99, N120, N121, N122, N179, N200, N255, N300, N400, N880, N900, N999, N1019, N50000000, N100000000, N1000000000, N2147483647, N2147483648, p1, p5, isb_1]
      · unfold f_X7_readFeeOf_33 f_X7_readFeeOf_51
        simp (disch := omega) only [↓reduceIte, gd_t, bd_s, nm_W, nm_I, I_add, I_sub, I_mul, I_neg, I_le_t, I_le_f, I_lt_t, I_lt_f, I_eq_t, I_eq_f, I_inb', I_ix', Int.toNat_natCast, decide_true, decide_false, Bool.not_false, Bool.not_true, if_true, if_false, wi_eq, wi_eq', wi_ne, wi_row, wi_2, N0, N1, N2, N3, N4, N5, N6, N7, N8, N9, N10, N11, N12, N13, N14, N15, N16, N17, N18, N19, N20, N21, N22, N23, N24, N25, N26, N27, N28, N29, N30, N31, N32, N33, N34, N35, N36, N37, N38, N39, N40, N41, N42, N43, N45, N48, N57, N59, N88, N89, N97, N99, N120, N121, N122, N179, N200, N255, N300, N400, N880, N900, N999, N1019, N50000000, N100000000, N1000000000, N2147483647, N2147483648, p2]
    · refine Or.inr ⟨wi σ2 1 10 (I (-v)), τ2, -v, pl2, k2, l2, n2, ?_, ?_, by omega, by omega, wi_eq, TK_c p6 (fun i hi => wi_ne hi) (fun _ _ _ => rfl) rfl, p7, CGt p8 CGw, p9⟩
      · unfold f_X5_takesFee_33 f_X5_takesFee_62
        simp (disch := omega) only [↓reduceIte, gd_t, bd_s, nm_W, nm_I, I_add, I_sub, I_mul, I_neg, I_le_t, I_le_f, I_lt_t, I_lt_f, I_eq_t, I_eq_f, I_inb', I_ix', Int.toNat_natCast, decide_true, decide_false, Bool.not_false, Bool.not_true, if_true, if_false, wi_eq, wi_eq', wi_ne, wi_row, wi_2, N0, N1, N2, N3, N4, N5, N6, N7, N8, N9, N10, N11, N12, N13, N14, N15, N16, N17, N18, N19, N20, N21, N22, N23, N24, N25, N26, N27, N28, N29, N30, N31, N32, N33, N34, N35, N36, N37, N38, N39, N40, N41, N42, N43, N45, N48, N57, N59, N88, N89, N97, N99, N120, N121, N122, N179, N200, N255, N300, N400, N880, N900, N999, N1019, N50000000, N100000000, N1000000000, N2147483647, N2147483648, p1, p5, isb_1]
      · unfold f_X7_readFeeOf_33 f_X7_readFeeOf_51
        simp (disch := omega) only [↓reduceIte, gd_t, bd_s, nm_W, nm_I, I_add, I_sub, I_mul, I_neg, I_le_t, I_le_f, I_lt_t, I_lt_f, I_eq_t, I_eq_f, I_inb', I_ix', Int.toNat_natCast, decide_true, decide_false, Bool.not_false, Bool.not_true, if_true, if_false, wi_eq, wi_eq', wi_ne, wi_row, wi_2, N0, N1, N2, N3, N4, N5, N6, N7, N8, N9, N10, N11, N12, N13, N14, N15, N16, N17, N18, N19, N20, N21, N22, N23, N24, N25, N26, N27, N28, N29, N30, N31, N32, N33, N34, N35, N36, N37, N38, N39, N40, N41, N42, N43, N45, N48, N57, N59, N88, N89, N97, N99, N120, N121, N122, N179, N200, N255, N300, N400, N880, N900, N999, N1019, N50000000, N100000000, N1000000000, N2147483647, N2147483648, p2]
theorem sign_ok {N pl : Nat} {bt : Nat → Int} {σ τ : Wd} {k n c : Int} {l : List Int} (hT : TK σ τ N bt pl k l n) (hc : c = 59 ∨ c = 45) : f_X7_isSign (I c) τ = some (I (bn (decide ((k = 3 ∧ c = 59) ∨ (k = 4 ∧ c = 45)))), τ) := by
  obtain ⟨nx, -, -, -, hq⟩ := hT
  unfold f_X7_isSign f_X7_isSign_20 f_X7_isSign_21
  rcases hq with ⟨q, h⟩ | ⟨q, h, -⟩ | ⟨q, h, -⟩ | ⟨q, h, h2⟩ | ⟨q, h, h2⟩ | ⟨q, h⟩
  · rw [decide_eq_false (by omega), bn_f]
    simp (disch := omega) only [↓reduceIte, gd_t, bd_s, nm_W, nm_I, I_add, I_sub, I_mul, I_neg, I_le_t, I_le_f, I_lt_t, I_lt_f, I_eq_t, I_eq_f, I_inb', I_ix', Int.toNat_natCast, decide_true, decide_false, Bool.not_false, Bool.not_true, if_true, if_false, wi_eq, wi_eq', wi_ne, wi_row, wi_2, N0, N1, N2, N3, N4, N5, N6, N7, N8, N9, N10, N11, N12, N13, N14, N15, N16, N17, N18, N19, N20, N21, N22, N23, N24, N25, N26, N27, N28, N29, N30, N31, N32, N33, N34, N35, N36, N37, N38, N39, N40, N41, N42, N43, N45, N48, N57, N59, N88, N89, N97, N99, N120, N121, N122, N179, N200, N255, N300, N400, N880, N900, N999, N1019, N50000000, N100000000, N1000000000, N2147483647, N2147483648, h, isb_0]
  · rw [decide_eq_false (by omega), bn_f]
    simp (disch := omega) only [↓reduceIte, gd_t, bd_s, nm_W, nm_I, I_add, I_sub, I_mul, I_neg, I_le_t, I_le_f, I_lt_t, I_lt_f, I_eq_t, I_eq_f, I_inb', I_ix', Int.toNat_natCast, decide_true, decide_false, Bool.not_false, Bool.not_true, if_true, if_false, wi_eq, wi_eq', wi_ne, wi_row, wi_2, N0, N1, N2, N3, N4, N5, N6, N7, N8, N9, N10, N11, N12, N13, N14, N15, N16, N17, N18, N19, N20, N21, N22, N23, N24, N25, N26, N27, N28, N29, N30, N31, N32, N33, N34, N35, N36, N37, N38, N39, N40, N41, N42, N43, N45, N48, N57, N59, N88, N89, N97, N99, N120, N121, N122, N179, N200, N255, N300, N400, N880, N900, N999, N1019, N50000000, N100000000, N1000000000, N2147483647, N2147483648, h, isb_0]
  · rw [decide_eq_false (by omega), bn_f]
    simp (disch := omega) only [↓reduceIte, gd_t, bd_s, nm_W, nm_I, I_add, I_sub, I_mul, I_neg, I_le_t, I_le_f, I_lt_t, I_lt_f, I_eq_t, I_eq_f, I_inb', I_ix', Int.toNat_natCast, decide_true, decide_false, Bool.not_false, Bool.not_true, if_true, if_false, wi_eq, wi_eq', wi_ne, wi_row, wi_2, N0, N1, N2, N3, N4, N5, N6, N7, N8, N9, N10, N11, N12, N13, N14, N15, N16, N17, N18, N19, N20, N21, N22, N23, N24, N25, N26, N27, N28, N29, N30, N31, N32, N33, N34, N35, N36, N37, N38, N39, N40, N41, N42, N43, N45, N48, N57, N59, N88, N89, N97, N99, N120, N121, N122, N179, N200, N255, N300, N400, N880, N900, N999, N1019, N50000000, N100000000, N1000000000, N2147483647, N2147483648, h, isb_0]
  · rcases hc with hc | hc
    · rw [decide_eq_true (by omega), bn_t]
      simp (disch := omega) only [↓reduceIte, gd_t, bd_s, nm_W, nm_I, I_add, I_sub, I_mul, I_neg, I_le_t, I_le_f, I_lt_t, I_lt_f, I_eq_t, I_eq_f, I_inb', I_ix', Int.toNat_natCast, decide_true, decide_false, Bool.not_false, Bool.not_true, if_true, if_false, wi_eq, wi_eq', wi_ne, wi_row, wi_2, N0, N1, N2, N3, N4, N5, N6, N7, N8, N9, N10, N11, N12, N13, N14, N15, N16, N17, N18, N19, N20, N21, N22, N23, N24, N25, N26, N27, N28, N29, N30, N31, N32, N33, N34, N35, N36, N37, N38, N39, N40, N41, N42, N43, N45, N48, N57, N59, N88, N89, N97, N99, N120, N121, N122, N179, N200, N255, N300, N400, N880, N900, N999, N1019, N50000000, N100000000, N1000000000, N2147483647, N2147483648, h, h2, isb_1]
    · rw [decide_eq_false (by omega), bn_f]
      simp (disch := omega) only [↓reduceIte, gd_t, bd_s, nm_W, nm_I, I_add, I_sub, I_mul, I_neg, I_le_t, I_le_f, I_lt_t, I_lt_f, I_eq_t, I_eq_f, I_inb', I_ix', Int.toNat_natCast, decide_true, decide_false, Bool.not_false, Bool.not_true, if_true, if_false, wi_eq, wi_eq', wi_ne, wi_row, wi_2, N0, N1, N2, N3, N4, N5, N6, N7, N8, N9, N10, N11, N12, N13, N14, N15, N16, N17, N18, N19, N20, N21, N22, N23, N24, N25, N26, N27, N28, N29, N30, N31, N32, N33, N34, N35, N36, N37, N38, N39, N40, N41, N42, N43, N45, N48, N57, N59, N88, N89, N97, N99, N120, N121, N122, N179, N200, N255, N300, N400, N880, N900, N999, N1019, N50000000, N100000000, N1000000000, N2147483647, N2147483648, h, h2, isb_0]
  · rcases hc with hc | hc
    · rw [decide_eq_false (by omega), bn_f]
      simp (disch := omega) only [↓reduceIte, gd_t, bd_s, nm_W, nm_I, I_add, I_sub, I_mul, I_neg, I_le_t, I_le_f, I_lt_t, I_lt_f, I_eq_t, I_eq_f, I_inb', I_ix', Int.toNat_natCast, decide_true, decide_false, Bool.not_false, Bool.not_true, if_true, if_false, wi_eq, wi_eq', wi_ne, wi_row, wi_2, N0, N1, N2, N3, N4, N5, N6, N7, N8, N9, N10, N11, N12, N13, N14, N15, N16, N17, N18, N19, N20, N21, N22, N23, N24, N25, N26, N27, N28, N29, N30, N31, N32, N33, N34, N35, N36, N37, N38, N39, N40, N41, N42, N43, N45, N48, N57, N59, N88, N89, N97, N99, N120, N121, N122, N179, N200, N255, N300, N400, N880, N900, N999, N1019, N50000000, N100000000, N1000000000, N2147483647, N2147483648, h, h2, isb_0]
    · rw [decide_eq_true (by omega), bn_t]
      simp (disch := omega) only [↓reduceIte, gd_t, bd_s, nm_W, nm_I, I_add, I_sub, I_mul, I_neg, I_le_t, I_le_f, I_lt_t, I_lt_f, I_eq_t, I_eq_f, I_inb', I_ix', Int.toNat_natCast, decide_true, decide_false, Bool.not_false, Bool.not_true, if_true, if_false, wi_eq, wi_eq', wi_ne, wi_row, wi_2, N0, N1, N2, N3, N4, N5, N6, N7, N8, N9, N10, N11, N12, N13, N14, N15, N16, N17, N18, N19, N20, N21, N22, N23, N24, N25, N26, N27, N28, N29, N30, N31, N32, N33, N34, N35, N36, N37, N38, N39, N40, N41, N42, N43, N45, N48, N57, N59, N88, N89, N97, N99, N120, N121, N122, N179, N200, N255, N300, N400, N880, N900, N999, N1019, N50000000, N100000000, N1000000000, N2147483647, N2147483648, h, h2, isb_1]
  · rw [decide_eq_false (by omega), bn_f]
    simp (disch := omega) only [↓reduceIte, gd_t, bd_s, nm_W, nm_I, I_add, I_sub, I_mul, I_neg, I_le_t, I_le_f, I_lt_t, I_lt_f, I_eq_t, I_eq_f, I_inb', I_ix', Int.toNat_natCast, decide_true, decide_false, Bool.not_false, Bool.not_true, if_true, if_false, wi_eq, wi_eq', wi_ne, wi_row, wi_2, N0, N1, N2, N3, N4, N5, N6, N7, N8, N9, N10, N11, N12, N13, N14, N15, N16, N17, N18, N19, N20, N21, N22, N23, N24, N25, N26, N27, N28, N29, N30, N31, N32, N33, N34, N35, N36, N37, N38, N39, N40, N41, N42, N43, N45, N48, N57, N59, N88, N89, N97, N99, N120, N121, N122, N179, N200, N255, N300, N400, N880, N900, N999, N1019, N50000000, N100000000, N1000000000, N2147483647, N2147483648, h, isb_0]
theorem fee_ok {N pl : Nat} {bt : Nat → Int} {σ τ : Wd} {k n : Int} {l : List Int} (hB : BY σ τ N bt) (hT : TK σ τ N bt pl k l n) :
    (∃ (σ' τ' : Wd) (y : Int32), f_X5_takesFee σ = some (I 0, σ') ∧ f_X7_readFeeOf τ = some (y, τ') ∧ BD σ' τ' ∧ CG σ σ' ∧ RX τ τ')
    ∨ (∃ (σ' τ' : Wd) (v : Int) (pl' : Nat) (k' : Int) (l' : List Int) (n' : Int), f_X5_takesFee σ = some (I 1, σ') ∧ f_X7_readFeeOf τ = some (I v, τ') ∧ -9 ≤ v ∧ v ≤ 9 ∧ σ'.1 1 10 = I v ∧ TK σ' τ' N bt pl' k' l' n' ∧ pl ≤ pl' ∧ CG σ σ' ∧ RX τ τ') := by
  rw [rFee_as]
  rcases word1_ok (w := 10) (by decide) hB hT with ⟨σ1, τ1, q1, q2, q3, q4, q5⟩ | ⟨σ1, τ1, pl1, k1, l1, n1, q1, q2, q3, q4, q5, q6⟩
  · obtain ⟨f, pf, -, -, hF⟩ := id q3
    have e3 := ft_sign (c := I 45) hF
    have e4 := ft_whole (lo := I 0) (hi := I 9) hF
    refine Or.inl ⟨σ1, τ1, I 0, ?_, ?_, q3, q4, q5⟩
    · unfold f_X5_takesFee
      simp (disch := omega) only [↓reduceIte, gd_t, bd_s, nm_W, nm_I, I_add, I_sub, I_mul, I_neg, I_le_t, I_le_f, I_lt_t, I_lt_f, I_eq_t, I_eq_f, I_inb', I_ix', Int.toNat_natCast, decide_true, decide_false, Bool.not_false, Bool.not_true, if_true, if_false, wi_eq, wi_eq', wi_ne, wi_row, wi_2, N0, N1, N2, N3, N4, N5, N6, N7, N8, N9, N10, N11, N12, N13, N14, N15, N16, N17, N18, N19, N20, N21, N22, N23, N24, N25, N26, N27, N28, N29, N30, N31, N32, N33, N34, N35, N36, N37, N38, N39, N40, N41, N42, N43, N45, N48, N57, N59, N88, N89, N97, N99, N120, N121, N122, N179, N200, N255, N300, N400, N880, N900, N999, N1019, N50000000, N100000000, N1000000000, N2147483647, N2147483648, q1, isb_0]
    · rw [q2, bd_s]
      unfold f_X7_readFeeOf_33 f_X7_readFeeOf_51
      simp (disch := omega) only [↓reduceIte, gd_t, bd_s, nm_W, nm_I, I_add, I_sub, I_mul, I_neg, I_le_t, I_le_f, I_lt_t, I_lt_f, I_eq_t, I_eq_f, I_inb', I_ix', Int.toNat_natCast, decide_true, decide_false, Bool.not_false, Bool.not_true, if_true, if_false, wi_eq, wi_eq', wi_ne, wi_row, wi_2, N0, N1, N2, N3, N4, N5, N6, N7, N8, N9, N10, N11, N12, N13, N14, N15, N16, N17, N18, N19, N20, N21, N22, N23, N24, N25, N26, N27, N28, N29, N30, N31, N32, N33, N34, N35, N36, N37, N38, N39, N40, N41, N42, N43, N45, N48, N57, N59, N88, N89, N97, N99, N120, N121, N122, N179, N200, N255, N300, N400, N880, N900, N999, N1019, N50000000, N100000000, N1000000000, N2147483647, N2147483648, e3, e4]
  · have hB1 := BY_f hB q5 q6
    have k7 := (TK_33 q3).2
    have kb := TK_k q3
    have sg := sign_ok (c := 45) q3 (Or.inr rfl)
    rw [q2, bd_s]
    by_cases c : k1 = 4
    · rw [decide_eq_true (Or.inr ⟨c, rfl⟩), bn_t] at sg
      obtain ⟨σ2, τ2, pl2, k2, l2, n2, r1, r2, r3, r4, r5, r6⟩ := step_ok hB1 q3 (by omega)
      have s1 : f_X5_takesFee σ = f_X5_takesFee_33 (I 1) σ2 := by
        unfold f_X5_takesFee f_X5_takesFee_24
        simp (disch := omega) only [↓reduceIte, gd_t, bd_s, nm_W, nm_I, I_add, I_sub, I_mul, I_neg, I_le_t, I_le_f, I_lt_t, I_lt_f, I_eq_t, I_eq_f, I_inb', I_ix', Int.toNat_natCast, decide_true, decide_false, Bool.not_false, Bool.not_true, if_true, if_false, wi_eq, wi_eq', wi_ne, wi_row, wi_2, N0, N1, N2, N3, N4, N5, N6, N7, N8, N9, N10, N11, N12, N13, N14, N15, N16, N17, N18, N19, N20, N21, N22, N23, N24, N25, N26, N27, N28, N29, N30, N31, N32, N33, N34, N35, N36, N37, N38, N39, N40, N41, N42, N43, N45, N48, N57, N59, N88, N89, N97, N99, N120, N121, N122, N179, N200, N255, N300, N400, N880, N900, N999, N1019, N50000000, N100000000, N1000000000, N2147483647, N2147483648, q1, k7, r1]
      have s2 : (bd (f_X7_isSign (45 : Int32) τ1) fun r2 σ3 => if r2 = 0 then (f_X7_readFeeOf_33 r2 σ3) else (bd (f_X7_next σ3) fun _ σ4 => (f_X7_readFeeOf_33 r2 σ4))) = f_X7_readFeeOf_33 (I 1) τ2 := by
        simp (disch := omega) only [↓reduceIte, gd_t, bd_s, nm_W, nm_I, I_add, I_sub, I_mul, I_neg, I_le_t, I_le_f, I_lt_t, I_lt_f, I_eq_t, I_eq_f, I_inb', I_ix', Int.toNat_natCast, decide_true, decide_false, Bool.not_false, Bool.not_true, if_true, if_false, wi_eq, wi_eq', wi_ne, wi_row, wi_2, N0, N1, N2, N3, N4, N5, N6, N7, N8, N9, N10, N11, N12, N13, N14, N15, N16, N17, N18, N19, N20, N21, N22, N23, N24, N25, N26, N27, N28, N29, N30, N31, N32, N33, N34, N35, N36, N37, N38, N39, N40, N41, N42, N43, N45, N48, N57, N59, N88, N89, N97, N99, N120, N121, N122, N179, N200, N255, N300, N400, N880, N900, N999, N1019, N50000000, N100000000, N1000000000, N2147483647, N2147483648, sg, r2]
      rw [s1, s2]
      rcases feeN_ok (x := 1) (Or.inr rfl) (BY_f hB1 (CFG r5) r6) r3 with ⟨σ', τ', y, p1, p2, p3, p4, p5⟩ | ⟨σ', τ', v, pl', k', l', n', p1, p2, p3, p4, p5, p6, p7, p8, p9⟩
      · exact Or.inl ⟨σ', τ', y, p1, p2, p3, CGt q5 (CGt (CFG r5) p4), RXt q6 (RXt r6 p5)⟩
      · exact Or.inr ⟨σ', τ', v, pl', k', l', n', p1, p2, p3, p4, p5, p6, by omega, CGt q5 (CGt (CFG r5) p8), RXt q6 (RXt r6 p9)⟩
    · rw [decide_eq_false (by omega), bn_f] at sg
      have s1 : f_X5_takesFee σ = f_X5_takesFee_33 (I 0) σ1 := by
        unfold f_X5_takesFee f_X5_takesFee_24
        simp (disch := omega) only [↓reduceIte, gd_t, bd_s, nm_W, nm_I, I_add, I_sub, I_mul, I_neg, I_le_t, I_le_f, I_lt_t, I_lt_f, I_eq_t, I_eq_f, I_inb', I_ix', Int.toNat_natCast, decide_true, decide_false, Bool.not_false, Bool.not_true, if_true, if_false, wi_eq, wi_eq', wi_ne, wi_row, wi_2, N0, N1, N2, N3, N4, N5, N6, N7, N8, N9, N10, N11, N12, N13, N14, N15, N16, N17, N18, N19, N20, N21, N22, N23, N24, N25, N26, N27, N28, N29, N30, N31, N32, N33, N34, N35, N36, N37, N38, N39, N40, N41, N42, N43, N45, N48, N57, N59, N88, N89, N97, N99, N120, N121, N122, N179, N200, N255, N300, N400, N880, N900, N999, N1019, N50000000, N100000000, N1000000000, N2147483647, N2147483648, q1, k7]
      have s2 : (bd (f_X7_isSign (45 : Int32) τ1) fun r2 σ3 => if r2 = 0 then (f_X7_readFeeOf_33 r2 σ3) else (bd (f_X7_next σ3) fun _ σ4 => (f_X7_readFeeOf_33 r2 σ4))) = f_X7_readFeeOf_33 (I 0) τ1 := by
        simp (disch := omega) only [↓reduceIte, gd_t, bd_s, nm_W, nm_I, I_add, I_sub, I_mul, I_neg, I_le_t, I_le_f, I_lt_t, I_lt_f, I_eq_t, I_eq_f, I_inb', I_ix', Int.toNat_natCast, decide_true, decide_false, Bool.not_false, Bool.not_true, if_true, if_false, wi_eq, wi_eq', wi_ne, wi_row, wi_2, N0, N1, N2, N3, N4, N5, N6, N7, N8, N9, N10, N11, N12, N13, N14, N15, N16, N17, N18, N19, N20, N21, N22, N23, N24, N25, N26, N27, N28, N29, N30, N31, N32, N33, N34, N35, N36, N37, N38, N39, N40, N41, N42, N43, N45, N48, N57, N59, N88, N89, N97, N99, N120, N121, N122, N179, N200, N255, N300, N400, N880, N900, N999, N1019, N50000000, N100000000, N1000000000, N2147483647, N2147483648, sg]
      rw [s1, s2]
      rcases feeN_ok (x := 0) (Or.inl rfl) hB1 q3 with ⟨σ', τ', y, p1, p2, p3, p4, p5⟩ | ⟨σ', τ', v, pl', k', l', n', p1, p2, p3, p4, p5, p6, p7, p8, p9⟩
      · exact Or.inl ⟨σ', τ', y, p1, p2, p3, CGt q5 p4, RXt q6 p5⟩
      · exact Or.inr ⟨σ', τ', v, pl', k', l', n', p1, p2, p3, p4, p5, p6, by omega, CGt q5 p8, RXt q6 p9⟩
/-- the start of a line that isn't the order's; full: whether there is no room -/
theorem opens_ok {m N pl : Nat} {bt : Nat → Int} {σ τ : Wd} {k n W x : Int} {l : List Int} (hm : 10 < m) (hx : x = 0 ∨ x = 1) (hB : BY σ τ N bt) (hT : TK σ τ N bt pl k l n) (hk : k = 1) (c0 : σ.1 m 0 = I W) (e16 : τ.1 102 16 = I W) (hW : 0 ≤ W ∧ W ≤ 120) :
    (∃ (σ' τ' : Wd), f_X5_opens m (I (1 - x)) σ = some (I 0, σ') ∧ f_X7_begins (I x) τ = some (0, τ') ∧ BD σ' τ' ∧ CG σ σ' ∧ RX τ τ')
    ∨ (∃ (σ' τ' : Wd) (pl' : Nat) (k' : Int) (l' : List Int) (n' : Int), x = 0 ∧ W ≠ 0 ∧ f_X5_opens m (I (1 - x)) σ = some (I 1, σ') ∧ f_X7_begins (I x) τ = some (0, τ') ∧ TK σ' τ' N bt pl' k' l' n' ∧ pl ≤ pl' ∧ CG σ σ' ∧ RX τ τ') := by
  by_cases cx : x = 1
  · obtain ⟨σ', τ', q1, q2, q3, q4, q5⟩ := bad_ok (c := 5) hT (by omega)
    obtain ⟨f, pf, -, -, hF⟩ := id q3
    have eb : f_X7_begins (I x) τ = f_X7_begins_9 τ' := by
      unfold f_X7_begins
      simp (disch := omega) only [↓reduceIte, gd_t, bd_s, nm_W, nm_I, I_add, I_sub, I_mul, I_neg, I_le_t, I_le_f, I_lt_t, I_lt_f, I_eq_t, I_eq_f, I_inb', I_ix', Int.toNat_natCast, decide_true, decide_false, Bool.not_false, Bool.not_true, if_true, if_false, wi_eq, wi_eq', wi_ne, wi_row, wi_2, N0, N1, N2, N3, N4, N5, N6, N7, N8, N9, N10, N11, N12, N13, N14, N15, N16, N17, N18, N19, N20, N21, N22, N23, N24, N25, N26, N27, N28, N29, N30, N31, N32, N33, N34, N35, N36, N37, N38, N39, N40, N41, N42, N43, N45, N48, N57, N59, N88, N89, N97, N99, N120, N121, N122, N179, N200, N255, N300, N400, N880, N900, N999, N1019, N50000000, N100000000, N1000000000, N2147483647, N2147483648, q2]
    have e9 : f_X7_begins_9 τ' = some (0, τ') := by
      have q := ft_begins (c := 0) hF
      unfold f_X7_begins at q
      rw [if_pos rfl] at q
      exact q
    refine Or.inl ⟨σ', τ', ?_, by rw [eb, e9], q3, q4, q5⟩
    unfold f_X5_opens
    simp (disch := omega) only [↓reduceIte, gd_t, bd_s, nm_W, nm_I, I_add, I_sub, I_mul, I_neg, I_le_t, I_le_f, I_lt_t, I_lt_f, I_eq_t, I_eq_f, I_inb', I_ix', Int.toNat_natCast, decide_true, decide_false, Bool.not_false, Bool.not_true, if_true, if_false, wi_eq, wi_eq', wi_ne, wi_row, wi_2, N0, N1, N2, N3, N4, N5, N6, N7, N8, N9, N10, N11, N12, N13, N14, N15, N16, N17, N18, N19, N20, N21, N22, N23, N24, N25, N26, N27, N28, N29, N30, N31, N32, N33, N34, N35, N36, N37, N38, N39, N40, N41, N42, N43, N45, N48, N57, N59, N88, N89, N97, N99, N120, N121, N122, N179, N200, N255, N300, N400, N880, N900, N999, N1019, N50000000, N100000000, N1000000000, N2147483647, N2147483648, q1, isb_0]
  · have x0 : x = 0 := by omega
    subst x0
    by_cases cw : W = 0
    · obtain ⟨σ', τ', q1, q2, q3, q4, q5⟩ := bad_ok (c := 6) hT (by omega)
      obtain ⟨f, pf, -, -, hF⟩ := id q3
      have en := ft_next hF
      refine Or.inl ⟨σ', τ', ?_, ?_, q3, q4, q5⟩
      · unfold f_X5_opens
        simp (disch := omega) only [↓reduceIte, gd_t, bd_s, nm_W, nm_I, I_add, I_sub, I_mul, I_neg, I_le_t, I_le_f, I_lt_t, I_lt_f, I_eq_t, I_eq_f, I_inb', I_ix', Int.toNat_natCast, decide_true, decide_false, Bool.not_false, Bool.not_true, if_true, if_false, wi_eq, wi_eq', wi_ne, wi_row, wi_2, N0, N1, N2, N3, N4, N5, N6, N7, N8, N9, N10, N11, N12, N13, N14, N15, N16, N17, N18, N19, N20, N21, N22, N23, N24, N25, N26, N27, N28, N29, N30, N31, N32, N33, N34, N35, N36, N37, N38, N39, N40, N41, N42, N43, N45, N48, N57, N59, N88, N89, N97, N99, N120, N121, N122, N179, N200, N255, N300, N400, N880, N900, N999, N1019, N50000000, N100000000, N1000000000, N2147483647, N2147483648, c0, q1, isb_0]
      · unfold f_X7_begins f_X7_begins_9 f_X7_begins_22
        simp (disch := omega) only [↓reduceIte, gd_t, bd_s, nm_W, nm_I, I_add, I_sub, I_mul, I_neg, I_le_t, I_le_f, I_lt_t, I_lt_f, I_eq_t, I_eq_f, I_inb', I_ix', Int.toNat_natCast, decide_true, decide_false, Bool.not_false, Bool.not_true, if_true, if_false, wi_eq, wi_eq', wi_ne, wi_row, wi_2, N0, N1, N2, N3, N4, N5, N6, N7, N8, N9, N10, N11, N12, N13, N14, N15, N16, N17, N18, N19, N20, N21, N22, N23, N24, N25, N26, N27, N28, N29, N30, N31, N32, N33, N34, N35, N36, N37, N38, N39, N40, N41, N42, N43, N45, N48, N57, N59, N88, N89, N97, N99, N120, N121, N122, N179, N200, N255, N300, N400, N880, N900, N999, N1019, N50000000, N100000000, N1000000000, N2147483647, N2147483648, e16, q2, en]
    · obtain ⟨σ', τ', pl', k', l', n', q1, q2, q3, q4, q5, q6⟩ := step_ok hB hT (by omega)
      refine Or.inr ⟨σ', τ', pl', k', l', n', rfl, cw, ?_, ?_, q3, q4.1, CFG q5, q6⟩
      · unfold f_X5_opens
        simp (disch := omega) only [↓reduceIte, gd_t, bd_s, nm_W, nm_I, I_add, I_sub, I_mul, I_neg, I_le_t, I_le_f, I_lt_t, I_lt_f, I_eq_t, I_eq_f, I_inb', I_ix', Int.toNat_natCast, decide_true, decide_false, Bool.not_false, Bool.not_true, if_true, if_false, wi_eq, wi_eq', wi_ne, wi_row, wi_2, N0, N1, N2, N3, N4, N5, N6, N7, N8, N9, N10, N11, N12, N13, N14, N15, N16, N17, N18, N19, N20, N21, N22, N23, N24, N25, N26, N27, N28, N29, N30, N31, N32, N33, N34, N35, N36, N37, N38, N39, N40, N41, N42, N43, N45, N48, N57, N59, N88, N89, N97, N99, N120, N121, N122, N179, N200, N255, N300, N400, N880, N900, N999, N1019, N50000000, N100000000, N1000000000, N2147483647, N2147483648, c0, q1, isb_1]
      · unfold f_X7_begins f_X7_begins_9 f_X7_begins_22
        simp (disch := omega) only [↓reduceIte, gd_t, bd_s, nm_W, nm_I, I_add, I_sub, I_mul, I_neg, I_le_t, I_le_f, I_lt_t, I_lt_f, I_eq_t, I_eq_f, I_inb', I_ix', Int.toNat_natCast, decide_true, decide_false, Bool.not_false, Bool.not_true, if_true, if_false, wi_eq, wi_eq', wi_ne, wi_row, wi_2, N0, N1, N2, N3, N4, N5, N6, N7, N8, N9, N10, N11, N12, N13, N14, N15, N16, N17, N18, N19, N20, N21, N22, N23, N24, N25, N26, N27, N28, N29, N30, N31, N32, N33, N34, N35, N36, N37, N38, N39, N40, N41, N42, N43, N45, N48, N57, N59, N88, N89, N97, N99, N120, N121, N122, N179, N200, N255, N300, N400, N880, N900, N999, N1019, N50000000, N100000000, N1000000000, N2147483647, N2147483648, e16, q2]
end
section
/-! PURE: the text: what is read so far; the order's line -/
def PV (m : Nat) (σ τ : Wd) (d : MD) (dl : Nat → Int) (v : Nat) : Prop :=
  (σ.1 (m + 1) v = I (d.kd v) ∧ τ.1 106 (5 * v) = I (d.kd v)) ∧ (σ.1 (m + 2) v = I (d.lo v) ∧ τ.1 106 (5 * v + 1) = I (d.lo v)) ∧ (σ.1 (m + 3) v = I (d.fe v) ∧ τ.1 110 v = I (d.fe v)) ∧ (σ.1 (m + 4) v = I (d.le v) ∧ τ.1 106 (5 * v + 2) = I (d.le v)) ∧ (σ.1 (m + 5) v = I (dl v) ∧ τ.1 106 (5 * v + 3) = I (dl v) ∧ 1 ≤ dl v ∧ dl v ≤ 9) ∧ (σ.1 (m + 6) v = I (d.lv v : Int) ∧ τ.1 106 (5 * v + 4) = I (d.lv v : Int))
  ∧ ∀ k, k < d.lv v → (σ.1 (m + 8) (6 * v + k) = I (d.pr (6 * v + k)) ∧ τ.1 107 (6 * v + k) = I (d.pr (6 * v + k))) ∧ (σ.1 (m + 9) (6 * v + k) = I (d.sz (6 * v + k)) ∧ τ.1 109 (6 * v + k) = I (d.sz (6 * v + k)))
def PE (m : Nat) (σ τ : Wd) (V E : Nat) (lv : Nat → Nat) (et : Nat → Int) : Prop :=
  E ≤ 10 ∧ σ.1 m 4 = I (E : Int) ∧ τ.1 102 20 = I (E : Int) ∧ (∀ i, i < E → ∃ (a k : Nat) (z : Int), a < V ∧ k < lv a ∧ 0 ≤ z ∧ z ≤ 99 ∧ 1 ≤ et i ∧ et i ≤ 200 ∧ σ.1 (m + 10) i = I (et i) ∧ τ.1 108 (4 * i) = I (et i) ∧ σ.1 (m + 11) i = I ((6 * a + k : Nat) : Int) ∧ τ.1 108 (4 * i + 1) = I (a : Int) ∧ τ.1 108 (4 * i + 2) = I (k : Int) ∧ σ.1 (m + 12) i = I z ∧ τ.1 108 (4 * i + 3) = I z)
  ∧ (∀ i, i + 1 < E → et i ≤ et (i + 1))
def PRD (m : Nat) (σ τ : Wd) (W p L : Int) (V E : Nat) (d : MD) (dl et : Nat → Int) : Prop :=
  (σ.1 m 0 = I W ∧ τ.1 102 16 = I W ∧ 0 ≤ W ∧ W ≤ 120 ∧ (W = 0 → V = 0 ∧ E = 0)) ∧ (W ≠ 0 → (σ.1 m 1 = I p ∧ τ.1 102 17 = I p ∧ 1 ≤ p ∧ p ≤ 999) ∧ (σ.1 m 2 = I L ∧ τ.1 102 18 = I L ∧ 1 ≤ L ∧ L ≤ 20)) ∧ (MDok d V ∧ σ.1 m 3 = I (V : Int) ∧ τ.1 102 19 = I (V : Int)) ∧ (∃ nm, NMS σ τ V nm) ∧ (∀ v, v < V → PV m σ τ d dl v)
  ∧ ((∀ v, V ≤ v → v < 5 → σ.1 (m + 6) v = I 0) ∧ (∀ v, v < 5 → σ.1 (m + 7) v = I 0)) ∧ PE m σ τ V E d.lv et
/-- what a line leaves alone -/
def LC (m : Nat) (σ σ' : Wd) : Prop := (∀ k, k ≠ 1 → k ≠ 3 → k < m ∨ m + 12 < k → σ'.1 k = σ.1 k) ∧ σ'.2 = σ.2
def LF (τ τ' : Wd) : Prop := (∀ k, k ≠ 102 → k < 106 ∨ 110 < k → τ'.1 k = τ.1 k) ∧ (∀ i, i < 16 ∨ 20 < i → i < 29 ∨ 33 < i → τ'.1 102 i = τ.1 102 i) ∧ τ'.2.2 = τ.2.2
theorem LCr {m : Nat} {σ : Wd} : LC m σ σ := ⟨fun _ _ _ _ => rfl, rfl⟩
theorem LFr {τ : Wd} : LF τ τ := ⟨fun _ _ _ => rfl, fun _ _ _ => rfl, rfl⟩
theorem LCt {m : Nat} {a b c : Wd} (h : LC m a b) (g : LC m b c) : LC m a c := ⟨fun k h1 h2 h3 => by rw [g.1 k h1 h2 h3, h.1 k h1 h2 h3], by rw [g.2, h.2]⟩
theorem LFt {a b c : Wd} (h : LF a b) (g : LF b c) : LF a c := ⟨fun k h1 h2 => by rw [g.1 k h1 h2, h.1 k h1 h2], fun i h1 h2 => by rw [g.2.1 i h1 h2, h.2.1 i h1 h2], by rw [g.2.2, h.2.2]⟩
theorem CGL {m : Nat} {σ σ' : Wd} (h : CG σ σ') : LC m σ σ' := ⟨fun k h1 _ _ => h.1 k h1, h.2⟩
theorem RXL {τ τ' : Wd} (h : RX τ τ') : LF τ τ' := ⟨fun k h1 _ => h.1 k h1, fun i _ h2 => h.2.1 i h2, h.2.2.2⟩
theorem LCw {m j i : Nat} {σ : Wd} {x : Int32} (h : m ≤ j ∧ j ≤ m + 12) : LC m σ (wi σ j i x) := ⟨fun k _ _ h3 => wi_row (by omega), rfl⟩
theorem LFw {j i : Nat} {τ : Wd} {x : Int32} (h : 106 ≤ j ∧ j ≤ 110) : LF τ (wi τ j i x) := ⟨fun k _ h2 => wi_row (by omega), fun k _ _ => by rw [wi_row (by omega)], rfl⟩
theorem LFv {i : Nat} {τ : Wd} {x : Int32} (h : 16 ≤ i ∧ i ≤ 20) : LF τ (wi τ 102 i x) := ⟨fun k h1 _ => wi_row h1, fun k _ _ => wi_ne (by omega), rfl⟩
theorem LFl {j i : Nat} {τ : Wd} {x : Int64} : LF τ (wl τ j i x) := ⟨fun k h1 _ => rfl, fun k _ _ => rfl, rfl⟩
theorem PV_f {m v : Nat} {σ τ σ' τ' : Wd} {d : MD} {dl : Nat → Int} (h : PV m σ τ d dl v) (c : ∀ k, m + 1 ≤ k → k ≤ m + 9 → σ'.1 k = σ.1 k) (e : ∀ k, 106 ≤ k → k ≤ 110 → k ≠ 108 → τ'.1 k = τ.1 k) : PV m σ' τ' d dl v := by
  unfold PV at h ⊢
  rw [c (m + 1) (by omega) (by omega), c (m + 2) (by omega) (by omega), c (m + 3) (by omega) (by omega), c (m + 4) (by omega) (by omega), c (m + 5) (by omega) (by omega), c (m + 6) (by omega) (by omega), c (m + 8) (by omega) (by omega), c (m + 9) (by omega) (by omega), e 106 (by omega) (by omega) (by omega), e 107 (by omega) (by omega) (by omega), e 109 (by omega) (by omega) (by omega), e 110 (by omega) (by omega) (by omega)]
  exact h
theorem PE_f {m V E : Nat} {σ τ σ' τ' : Wd} {lv : Nat → Nat} {et : Nat → Int} (h : PE m σ τ V E lv et) (c4 : σ'.1 m 4 = σ.1 m 4) (c : ∀ k, m + 10 ≤ k → k ≤ m + 12 → σ'.1 k = σ.1 k) (e20 : τ'.1 102 20 = τ.1 102 20) (e : τ'.1 108 = τ.1 108) : PE m σ' τ' V E lv et := by
  unfold PE at h ⊢
  rw [c4, c (m + 10) (by omega) (by omega), c (m + 11) (by omega) (by omega), c (m + 12) (by omega) (by omega), e20, e]
  exact h
theorem NMS_f {σ τ σ' τ' : Wd} {V : Nat} {nm : Nat → List Int} (h : NMS σ τ V nm) (c : σ'.1 3 = σ.1 3) (e : τ'.2.1 111 = τ.2.1 111) : NMS σ' τ' V nm := by
  unfold NMS at h ⊢
  rw [c, e]
  exact h
theorem PRD_f {m V E : Nat} {σ τ σ' τ' : Wd} {W p L : Int} {d : MD} {dl et : Nat → Int} (hm : 10 < m) (h : PRD m σ τ W p L V E d dl et) (c : CG σ σ') (e : RX τ τ') : PRD m σ' τ' W p L V E d dl et := by
  obtain ⟨h1, h2, h3, ⟨nm, h4⟩, h5, h6, h7⟩ := h
  refine ⟨?_, ?_, ?_, ⟨nm, NMS_f h4 (c.1 3 (by decide)) (e.2.2.1 111 (by decide))⟩, fun v hv => PV_f (h5 v hv) (fun k _ _ => c.1 k (by omega)) (fun k _ _ _ => e.1 k (by omega)), ?_, PE_f h7 (by rw [c.1 m (by omega)]) (fun k _ _ => c.1 k (by omega)) (e.2.1 20 (by decide)) (e.1 108 (by decide))⟩
  · rw [c.1 m (by omega), e.2.1 16 (by decide)]; exact h1
  · rw [c.1 m (by omega), e.2.1 17 (by decide), e.2.1 18 (by decide)]; exact h2
  · rw [c.1 m (by omega), e.2.1 19 (by decide)]; exact h3
  · rw [c.1 (m + 6) (by omega), c.1 (m + 7) (by omega)]; exact h6
theorem BYw {m j i N : Nat} {σ τ : Wd} {x : Int32} {bt : Nat → Int} (h : BY σ τ N bt) (hj : j ≠ 2) : BY (wi σ j i x) τ N bt := by
  unfold BY at h ⊢
  rw [wi_row (Ne.symm hj)]
  exact h
theorem TKw {N pl j i : Nat} {bt : Nat → Int} {σ τ : Wd} {k n : Int} {l : List Int} {x : Int32} (hT : TK σ τ N bt pl k l n) (hj : j ≠ 1) : TK (wi σ j i x) τ N bt pl k l n := TK_c hT (fun i _ => by rw [wi_row (Ne.symm hj)]) (fun _ _ _ => rfl) rfl
/-! the order's line -/
def oR3 (m : Nat) (σ14 : Wd) : Option (Int32 × Wd) := nmW (wi σ14 m 2 (σ14.1 1 10)) fun σ15 => gd (isb (1 : Int32)) (some ((1 : Int32), σ15))
def oR2 (m : Nat) (σ9 : Wd) : Option (Int32 × Wd) := nmW (wi σ9 m 1 (σ9.1 1 10)) fun σ10 => bd (f_X5_takesWord 5 σ10) fun r11 σ12 => if r11 = 0 then (f_X5_readOrder_91 m σ12) else (bd (f_X5_takesWhole (I 1) (I 20) σ12) fun r13 σ14 => if r13 = 0 then (f_X5_readOrder_91 m σ14) else oR3 m σ14)
def oR1 (m : Nat) (σ4 : Wd) : Option (Int32 × Wd) := nmW (wi σ4 m 0 (σ4.1 1 10)) fun σ5 => bd (f_X5_takesWord 4 σ5) fun r6 σ7 => if r6 = 0 then (f_X5_readOrder_62 m σ7) else (bd (f_X5_takesWhole (I 1) (I 999) σ7) fun r8 σ9 => if r8 = 0 then (f_X5_readOrder_62 m σ9) else oR2 m σ9)
theorem oR_eq {m : Nat} {σ : Wd} : f_X5_readOrder m σ = if (σ.1 m 0) = 0 then (bd (f_X5_takesWord 0 σ) fun r1 σ2 => if r1 = 0 then (f_X5_readOrder_32 m σ2) else (bd (f_X5_takesWhole (I 1) (I 120) σ2) fun r3 σ4 => if r3 = 0 then (f_X5_readOrder_32 m σ4) else oR1 m σ4)) else (bd (f_X5_fails (I 3) σ) fun r16 σ17 => gd (isb r16) (some (r16, σ17))) := rfl
theorem ft_order {τ : Wd} {f : Int} {pl : Nat} (h : FT τ f pl) : f_X7_readOrderLine_12 τ = some (0, τ) := by
  have e2 := ft_next h
  have e3 := ft_whole (lo := I 1) (hi := I 120) h
  have e4 := ft_part (w := 4) (lo := I 1) (hi := I 999) (by decide) h
  have e5 := ft_part (w := 5) (lo := I 1) (hi := I 20) (by decide) h
  obtain ⟨h1, h2, h3, h4, h5⟩ := h
  unfold f_X7_readOrderLine_12
  simp (disch := omega) only [↓reduceIte, gd_t, bd_s, nm_W, nm_I, I_add, I_sub, I_mul, I_neg, I_le_t, I_le_f, I_lt_t, I_lt_f, I_eq_t, I_eq_f, I_inb', I_ix', Int.toNat_natCast, decide_true, decide_false, Bool.not_false, Bool.not_true, if_true, if_false, wi_eq, wi_eq', wi_ne, wi_row, wi_2, N0, N1, N2, N3, N4, N5, N6, N7, N8, N9, N10, N11, N12, N13, N14, N15, N16, N17, N18, N19, N20, N21, N22, N23, N24, N25, N26, N27, N28, N29, N30, N31, N32, N33, N34, N35, N36, N37, N38, N39, N40, N41, N42, N43, N45, N48, N57, N59, N88, N89, N97, N99, N120, N121, N122, N179, N200, N255, N300, N400, N880, N900, N999, N1019, N50000000, N100000000, N1000000000, N2147483647, N2147483648, e2, e3, e4, e5, h1]
theorem order_ok {m N pl V E : Nat} {bt : Nat → Int} {σ τ : Wd} {k n W p L : Int} {l : List Int} {d : MD} {dl et : Nat → Int} (hm : 10 < m) (hB : BY σ τ N bt) (hT : TK σ τ N bt pl k l n) (hk : k = 1 ∧ l = lw 0) (hP : PRD m σ τ W p L V E d dl et) :
    (∃ (σ' τ' : Wd), f_X5_readOrder m σ = some (I 0, σ') ∧ f_X7_readOrderLine τ = some (0, τ') ∧ BD σ' τ' ∧ LC m σ σ' ∧ LF τ τ')
    ∨ (∃ (σ' τ' : Wd) (pl' : Nat) (k' : Int) (l' : List Int) (n' W' p' L' : Int), f_X5_readOrder m σ = some (I 1, σ') ∧ f_X7_readOrderLine τ = some (0, τ') ∧ PRD m σ' τ' W' p' L' V E d dl et ∧ TK σ' τ' N bt pl' k' l' n' ∧ pl ≤ pl' ∧ LC m σ σ' ∧ LF τ τ') := by
  have hP0 := hP
  obtain ⟨⟨h0, h16, hW0, hW1, hW2⟩, -⟩ := hP
  rw [oR_eq]
  by_cases cW : W = 0
  · have eref : f_X7_readOrderLine τ = f_X7_readOrderLine_12 τ := by
      unfold f_X7_readOrderLine
      simp (disch := omega) only [↓reduceIte, gd_t, bd_s, nm_W, nm_I, I_add, I_sub, I_mul, I_neg, I_le_t, I_le_f, I_lt_t, I_lt_f, I_eq_t, I_eq_f, I_inb', I_ix', Int.toNat_natCast, decide_true, decide_false, Bool.not_false, Bool.not_true, if_true, if_false, wi_eq, wi_eq', wi_ne, wi_row, wi_2, N0, N1, N2, N3, N4, N5, N6, N7, N8, N9, N10, N11, N12, N13, N14, N15, N16, N17, N18, N19, N20, N21, N22, N23, N24, N25, N26, N27, N28, N29, N30, N31, N32, N33, N34, N35, N36, N37, N38, N39, N40, N41, N42, N43, N45, N48, N57, N59, N88, N89, N97, N99, N120, N121, N122, N179, N200, N255, N300, N400, N880, N900, N999, N1019, N50000000, N100000000, N1000000000, N2147483647, N2147483648, h16]
    rw [if_pos (show σ.1 m 0 = (0 : Int32) by rw [h0, cW]; rfl), eref]
    rcases word1_ok (w := 0) (by decide) hB hT with ⟨σ1, τ1, q1, q2, q3, -⟩ | ⟨σ1, τ1, pl1, k1, l1, n1, q1, q2, q3, q4, q5, q6⟩
    · exfalso
      obtain ⟨a0, b0⟩ := isw_ok (w := 0) (by decide) hB hT
      rw [decide_eq_true hk, bn_t] at a0
      unfold f_X5_takesWord at q1
      obtain ⟨σ2, -, -, -, -, -, r1, -⟩ := step_ok hB hT (by omega)
      rw [a0, bd_s, if_neg (show ¬ I 1 = (0 : Int32) by decide), r1, bd_s] at q1
      have q1 : some ((1 : Int32), σ2) = some (I 0, σ1) := q1
      obtain ⟨e, -⟩ := Prod.mk.inj (Option.some.inj q1)
      exact absurd e (by decide)
    · obtain ⟨a0, b0⟩ := isw_ok (w := 0) (by decide) hB hT
      rw [decide_eq_true hk, bn_t] at b0
      rw [b0, bd_s, if_neg (show ¬ I 1 = (0 : Int32) by decide)] at q2
      rw [q1, bd_s, if_neg (show ¬ I 1 = (0 : Int32) by decide)]
      have hB1 := BY_f hB q5 q6
      rcases num1_ok (lo := 1) (hi := 120) (K0 := f_X5_readOrder_32 m) (K1 := oR1 m) (fun _ => rfl) hB1 q3 (by omega) (by omega) with ⟨σ2, τ2, r1, r2, r3, r4, r5⟩ | ⟨σ2, τ2, v2, pl2, k2, l2, n2, r1, r2, r3, r3', r4, r5, r6, r7, r8⟩
      · obtain ⟨f, pf, -, -, hF⟩ := id r3
        have e4 := ft_part (w := 4) (lo := I 1) (hi := I 999) (by decide) hF
        have e5 := ft_part (w := 5) (lo := I 1) (hi := I 20) (by decide) hF
        obtain ⟨f1, f2, f3, f4, f5⟩ := hF
        refine Or.inl ⟨σ2, τ2, r1, ?_, r3, LCt (CGL q5) (CGL r4), LFt (RXL q6) (RXL r5)⟩
        unfold f_X7_readOrderLine_12
        simp (disch := omega) only [↓reduceIte, gd_t, bd_s, nm_W, nm_I, I_add, I_sub, I_mul, I_neg, I_le_t, I_le_f, I_lt_t, I_lt_f, I_eq_t, I_eq_f, I_inb', I_ix', Int.toNat_natCast, decide_true, decide_false, Bool.not_false, Bool.not_true, if_true, if_false, wi_eq, wi_eq', wi_ne, wi_row, wi_2, N0, N1, N2, N3, N4, N5, N6, N7, N8, N9, N10, N11, N12, N13, N14, N15, N16, N17, N18, N19, N20, N21, N22, N23, N24, N25, N26, N27, N28, N29, N30, N31, N32, N33, N34, N35, N36, N37, N38, N39, N40, N41, N42, N43, N45, N48, N57, N59, N88, N89, N97, N99, N120, N121, N122, N179, N200, N255, N300, N400, N880, N900, N999, N1019, N50000000, N100000000, N1000000000, N2147483647, N2147483648, q2, r2, e4, e5, f1]
      · have hB2 := BYw (m := m) (j := m) (i := 0) (x := I v2) (BY_f hB1 r7 r8) (by omega)
        rw [r1]
        unfold oR1
        rw [nm_W, r4]
        rcases part_ok (w := 4) (lo := 1) (hi := 999) (K0 := f_X5_readOrder_62 m) (K1 := oR2 m) (fun _ => rfl) (by decide) hB2 (TKw (j := m) (i := 0) (x := I v2) r5 (by omega)) (by omega) (by omega) with ⟨σ3, τ3, s1, s2, s3, s4, s5⟩ | ⟨σ3, τ3, v3, pl3, k3, l3, n3, s1, s2, s3, s3', s4, s5, s6, s7, s8⟩
        · obtain ⟨f, pf, -, -, hF⟩ := id s3
          have e5 := ft_part (w := 5) (lo := I 1) (hi := I 20) (by decide) hF
          obtain ⟨f1, f2, f3, f4, f5⟩ := hF
          refine Or.inl ⟨σ3, τ3, s1, ?_, s3, LCt (CGL q5) (LCt (CGL r7) (LCt (LCw (by omega)) (CGL s4))), LFt (RXL q6) (LFt (RXL r8) (RXL s5))⟩
          unfold f_X7_readOrderLine_12
          simp (disch := omega) only [↓reduceIte, gd_t, bd_s, nm_W, nm_I, I_add, I_sub, I_mul, I_neg, I_le_t, I_le_f, I_lt_t, I_lt_f, I_eq_t, I_eq_f, I_inb', I_ix', Int.toNat_natCast, decide_true, decide_false, Bool.not_false, Bool.not_true, if_true, if_false, wi_eq, wi_eq', wi_ne, wi_row, wi_2, N0, N1, N2, N3, N4, N5, N6, N7, N8, N9, N10, N11, N12, N13, N14, N15, N16, N17, N18, N19, N20, N21, N22, N23, N24, N25, N26, N27, N28, N29, N30, N31, N32, N33, N34, N35, N36, N37, N38, N39, N40, N41, N42, N43, N45, N48, N57, N59, N88, N89, N97, N99, N120, N121, N122, N179, N200, N255, N300, N400, N880, N900, N999, N1019, N50000000, N100000000, N1000000000, N2147483647, N2147483648, q2, r2, s2, e5, f1]
        · have hB3 := BYw (m := m) (j := m) (i := 1) (x := I v3) (BY_f hB2 s7 s8) (by omega)
          rw [s1]
          unfold oR2
          rw [nm_W, s4]
          rcases part_ok (w := 5) (lo := 1) (hi := 20) (K0 := f_X5_readOrder_91 m) (K1 := oR3 m) (fun _ => rfl) (by decide) hB3 (TKw (j := m) (i := 1) (x := I v3) s5 (by omega)) (by omega) (by omega) with ⟨σ4, τ4, t1, t2, t3, t4, t5⟩ | ⟨σ4, τ4, v4, pl4, k4, l4, n4, t1, t2, t3, t3', t4, t5, t6, t7, t8⟩
          · obtain ⟨f, pf, -, -, hF⟩ := id t3
            obtain ⟨f1, f2, f3, f4, f5⟩ := hF
            refine Or.inl ⟨σ4, τ4, t1, ?_, t3, LCt (CGL q5) (LCt (CGL r7) (LCt (LCw (by omega)) (LCt (CGL s7) (LCt (LCw (by omega)) (CGL t4))))), LFt (RXL q6) (LFt (RXL r8) (LFt (RXL s8) (RXL t5)))⟩
            unfold f_X7_readOrderLine_12
            simp (disch := omega) only [↓reduceIte, gd_t, bd_s, nm_W, nm_I, I_add, I_sub, I_mul, I_neg, I_le_t, I_le_f, I_lt_t, I_lt_f, I_eq_t, I_eq_f, I_inb', I_ix', Int.toNat_natCast, decide_true, decide_false, Bool.not_false, Bool.not_true, if_true, if_false, wi_eq, wi_eq', wi_ne, wi_row, wi_2, N0, N1, N2, N3, N4, N5, N6, N7, N8, N9, N10, N11, N12, N13, N14, N15, N16, N17, N18, N19, N20, N21, N22, N23, N24, N25, N26, N27, N28, N29, N30, N31, N32, N33, N34, N35, N36, N37, N38, N39, N40, N41, N42, N43, N45, N48, N57, N59, N88, N89, N97, N99, N120, N121, N122, N179, N200, N255, N300, N400, N880, N900, N999, N1019, N50000000, N100000000, N1000000000, N2147483647, N2147483648, q2, r2, s2, t2, f1]
          · have g33 := (TK_33 t5).1
            have key : LC m σ (wi σ4 m 2 (I v4)) := LCt (CGL q5) (LCt (CGL r7) (LCt (LCw (by omega)) (LCt (CGL s7) (LCt (LCw (by omega)) (LCt (CGL t7) (LCw (by omega)))))))
            have keyR : RX τ τ4 := RXt q6 (RXt r8 (RXt s8 t8))
            rw [t1]
            unfold oR3
            rw [nm_W, t4]
            refine Or.inr ⟨wi σ4 m 2 (I v4), wi (wi (wi τ4 102 16 (I v2)) 102 17 (I v3)) 102 18 (I v4), pl4, k4, l4, n4, v2, v3, v4, rfl, ?_, ?_, TK_c t5 (fun i _ => by rw [wi_row (by omega)]) (fun i i1 i2 => by rw [wi_ne (by omega), wi_ne (by omega), wi_ne (by omega)]) rfl, by omega, key, LFt (RXL keyR) (LFt (LFv (by omega)) (LFt (LFv (by omega)) (LFv (by omega))))⟩
            · unfold f_X7_readOrderLine_12
              simp (disch := omega) only [↓reduceIte, gd_t, bd_s, nm_W, nm_I, I_add, I_sub, I_mul, I_neg, I_le_t, I_le_f, I_lt_t, I_lt_f, I_eq_t, I_eq_f, I_inb', I_ix', Int.toNat_natCast, decide_true, decide_false, Bool.not_false, Bool.not_true, if_true, if_false, wi_eq, wi_eq', wi_ne, wi_row, wi_2, N0, N1, N2, N3, N4, N5, N6, N7, N8, N9, N10, N11, N12, N13, N14, N15, N16, N17, N18, N19, N20, N21, N22, N23, N24, N25, N26, N27, N28, N29, N30, N31, N32, N33, N34, N35, N36, N37, N38, N39, N40, N41, N42, N43, N45, N48, N57, N59, N88, N89, N97, N99, N120, N121, N122, N179, N200, N255, N300, N400, N880, N900, N999, N1019, N50000000, N100000000, N1000000000, N2147483647, N2147483648, q2, r2, s2, t2, g33]
            · obtain ⟨V0, E0⟩ := hW2 cW
              subst V0 E0
              obtain ⟨-, -, ⟨p1, p2, p3⟩, ⟨nm, p4⟩, p5, ⟨p6, p7⟩, p8⟩ := hP0
              have cr : ∀ k, k ≠ 1 → k ≠ m → (wi σ4 m 2 (I v4)).1 k = σ.1 k := fun k h1 h2 => by rw [wi_row h2, t7.1 k h1, wi_row h2, s7.1 k h1, wi_row h2, r7.1 k h1, q5.1 k h1]
              have cm : ∀ i, i ≠ 0 → i ≠ 1 → i ≠ 2 → (wi σ4 m 2 (I v4)).1 m i = σ.1 m i := fun i h1 h2 h3 => by rw [wi_ne h3, t7.1 m (by omega), wi_ne h2, s7.1 m (by omega), wi_ne h1, r7.1 m (by omega), q5.1 m (by omega)]
              have rr : ∀ k, k ≠ 102 → (wi (wi (wi τ4 102 16 (I v2)) 102 17 (I v3)) 102 18 (I v4)).1 k = τ.1 k := fun k h1 => by rw [wi_row h1, wi_row h1, wi_row h1, keyR.1 k h1]
              have rv : ∀ i, i < 29 → i ≠ 16 → i ≠ 17 → i ≠ 18 → (wi (wi (wi τ4 102 16 (I v2)) 102 17 (I v3)) 102 18 (I v4)).1 102 i = τ.1 102 i := fun i h0 h1 h2 h3 => by rw [wi_ne h3, wi_ne h2, wi_ne h1, keyR.2.1 i (by omega)]
              refine ⟨⟨?_, ?_, by omega, by omega, fun q => by omega⟩, fun _ => ⟨⟨?_, ?_, by omega, by omega⟩, ⟨wi_eq, wi_eq, by omega, by omega⟩⟩, ⟨p1, by rw [cm 3 (by decide) (by decide) (by decide)]; exact p2, by rw [rv 19 (by decide) (by decide) (by decide) (by decide)]; exact p3⟩, ⟨nm, by decide, fun v hv => absurd hv (by omega)⟩, fun v hv => absurd hv (by omega), ⟨fun v h1 h2 => by rw [cr (m + 6) (by omega) (by omega)]; exact p6 v h1 h2, fun v h1 => by rw [cr (m + 7) (by omega) (by omega)]; exact p7 v h1⟩, PE_f p8 (cm 4 (by decide) (by decide) (by decide)) (fun k _ _ => cr k (by omega) (by omega)) (rv 20 (by decide) (by decide) (by decide) (by decide)) (rr 108 (by decide))⟩
              · rw [wi_ne (by decide), t7.1 m (by omega), wi_ne (by decide), s7.1 m (by omega), wi_eq]
              · rw [wi_ne (by decide), wi_ne (by decide), wi_eq]
              · rw [wi_ne (by decide), t7.1 m (by omega), wi_eq]
              · rw [wi_ne (by decide), wi_eq]
  · obtain ⟨σ', τ', q1, q2, q3, q4, q5⟩ := bad_ok (c := 3) hT (by omega)
    obtain ⟨f, pf, -, -, hF⟩ := id q3
    have e12 := ft_order hF
    refine Or.inl ⟨σ', τ', ?_, ?_, q3, CGL q4, RXL q5⟩
    · rw [if_neg (show ¬ σ.1 m 0 = (0 : Int32) by rw [h0]; show ¬ I W = I 0; rw [I_eq (by unfold R; omega) (by unfold R; omega)]; exact cW), q1, bd_s]
      rfl
    · unfold f_X7_readOrderLine
      simp (disch := omega) only [↓reduceIte, gd_t, bd_s, nm_W, nm_I, I_add, I_sub, I_mul, I_neg, I_le_t, I_le_f, I_lt_t, I_lt_f, I_eq_t, I_eq_f, I_inb', I_ix', Int.toNat_natCast, decide_true, decide_false, Bool.not_false, Bool.not_true, if_true, if_false, wi_eq, wi_eq', wi_ne, wi_row, wi_2, N0, N1, N2, N3, N4, N5, N6, N7, N8, N9, N10, N11, N12, N13, N14, N15, N16, N17, N18, N19, N20, N21, N22, N23, N24, N25, N26, N27, N28, N29, N30, N31, N32, N33, N34, N35, N36, N37, N38, N39, N40, N41, N42, N43, N45, N48, N57, N59, N88, N89, N97, N99, N120, N121, N122, N179, N200, N255, N300, N400, N880, N900, N999, N1019, N50000000, N100000000, N1000000000, N2147483647, N2147483648, h16, q2]
      exact e12
end
section
/-! PURE: the text: a venue's line -/
def vR6 (m : Nat) (a : Int32) (σ28 : Wd) : Option (Int32 × Wd) := gd (inb a 5) (nmW (wi σ28 (m + 5) (ix a) (σ28.1 1 10)) fun σ29 => nmW (wi σ29 m 3 ((σ29.1 m 3) + (1 : Int32))) fun σ30 => gd (isb (1 : Int32)) (some ((1 : Int32), σ30)))
def vR5 (m : Nat) (a : Int32) (σ23 : Wd) : Option (Int32 × Wd) := gd (inb a 5) (nmW (wi σ23 (m + 4) (ix a) (σ23.1 1 10)) fun σ24 => bd (f_X5_takesWord 12 σ24) fun r25 σ26 => if r25 = 0 then (f_X5_readVenue_169 m σ26) else (bd (f_X5_takesWhole (I 1) (I 9) σ26) fun r27 σ28 => if r27 = 0 then (f_X5_readVenue_169 m σ28) else vR6 m a σ28))
def vR4 (m : Nat) (a : Int32) (σ18 : Wd) : Option (Int32 × Wd) := gd (inb a 5) (nmW (wi σ18 (m + 3) (ix a) (σ18.1 1 10)) fun σ19 => bd (f_X5_takesWord 11 σ19) fun r20 σ21 => if r20 = 0 then (f_X5_readVenue_138 m σ21) else (bd (f_X5_takesWhole (I 0) (I 300) σ21) fun r22 σ23 => if r22 = 0 then (f_X5_readVenue_138 m σ23) else vR5 m a σ23))
def vR3 (m : Nat) (a : Int32) (σ15 : Wd) : Option (Int32 × Wd) := gd (inb a 5) (nmW (wi σ15 (m + 2) (ix a) (σ15.1 1 10)) fun σ16 => bd (f_X5_takesFee σ16) fun r17 σ18 => if r17 = 0 then (gd (isb (0 : Int32)) (some ((0 : Int32), σ18))) else vR4 m a σ18)
def vR2 (m : Nat) (a : Int32) (σ10 : Wd) : Option (Int32 × Wd) := gd (inb a 5) (nmW (wi σ10 (m + 1) (ix a) (σ10.1 1 10)) fun σ11 => bd (f_X5_takesWord 9 σ11) fun r12 σ13 => if r12 = 0 then (f_X5_readVenue_87 m σ13) else (bd (f_X5_takesWhole (I 1) (I 20) σ13) fun r14 σ15 => if r14 = 0 then (f_X5_readVenue_87 m σ15) else vR3 m a σ15))
def vR1 (m : Nat) (a : Int32) (σ6 : Wd) : Option (Int32 × Wd) := gd (inb a 5) (nmW (wi σ6 3 (ix a) (σ6.1 1 9)) fun σ7 => bd (f_X5_step σ7) fun _ σ8 => bd (f_X5_takesKind σ8) fun r9 σ10 => if r9 = 0 then (gd (isb (0 : Int32)) (some ((0 : Int32), σ10))) else vR2 m a σ10)
theorem vR_eq {m : Nat} {a : Int32} {σ : Wd} : f_X5_readVenue m a σ = bd (f_X5_isName σ) fun r1 σ2 => if r1 = 0 then (bd (f_X5_fails (I 1) σ2) fun r3 σ4 => gd (isb r3) (some (r3, σ4))) else (bd (f_X5_venueNamed (σ2.1 1 9) (σ2.1 m 3) σ2) fun r5 σ6 => if r5 = I (-1) then vR1 m a σ6 else (bd (f_X5_fails (I 3) σ6) fun r31 σ32 => gd (isb r31) (some (r31, σ32)))) := rfl
theorem ft_ven49 {τ : Wd} {f : Int} {pl : Nat} (h : FT τ f pl) : f_X7_readVenueLine_49 τ = some (0, τ) := by
  have e2 := ft_next h
  have e3 := ft_kind h
  have e4 := ft_part (w := 9) (lo := I 1) (hi := I 20) (by decide) h
  have e5 := ft_fee h
  have e6 := ft_part (w := 11) (lo := I 0) (hi := I 300) (by decide) h
  have e7 := ft_part (w := 12) (lo := I 1) (hi := I 9) (by decide) h
  obtain ⟨h1, h2, h3, h4, h5⟩ := h
  unfold f_X7_readVenueLine_49
  simp (disch := omega) only [↓reduceIte, gd_t, bd_s, nm_W, nm_I, I_add, I_sub, I_mul, I_neg, I_le_t, I_le_f, I_lt_t, I_lt_f, I_eq_t, I_eq_f, I_inb', I_ix', Int.toNat_natCast, decide_true, decide_false, Bool.not_false, Bool.not_true, if_true, if_false, wi_eq, wi_eq', wi_ne, wi_row, wi_2, N0, N1, N2, N3, N4, N5, N6, N7, N8, N9, N10, N11, N12, N13, N14, N15, N16, N17, N18, N19, N20, N21, N22, N23, N24, N25, N26, N27, N28, N29, N30, N31, N32, N33, N34, N35, N36, N37, N38, N39, N40, N41, N42, N43, N45, N48, N57, N59, N88, N89, N97, N99, N120, N121, N122, N179, N200, N255, N300, N400, N880, N900, N999, N1019, N50000000, N100000000, N1000000000, N2147483647, N2147483648, e2, e3, e4, e5, e6, e7, h1]
/-- the cells that a venue's line leaves alone -/
def VC (m V : Nat) (σ σ' : Wd) : Prop := ∀ k i, k ≠ 1 → (k = 3 ∨ (m + 1 ≤ k ∧ k ≤ m + 5) → i ≠ V) → (k = m → i ≠ 3) → σ'.1 k i = σ.1 k i
theorem VCt {m V : Nat} {a b c : Wd} (h : VC m V a b) (g : VC m V b c) : VC m V a c := fun k i h1 h2 h3 => by rw [g k i h1 h2 h3, h k i h1 h2 h3]
theorem VCg {m V : Nat} {a b : Wd} (h : CG a b) : VC m V a b := fun k i h1 _ _ => by rw [h.1 k h1]
theorem VCw {m V j : Nat} {σ : Wd} {x : Int32} (h : j = 3 ∨ (m + 1 ≤ j ∧ j ≤ m + 5)) : VC m V σ (wi σ j V x) := fun k i _ h2 _ => by
  by_cases e : k = j
  · subst e
    rw [wi_ne (h2 h)]
  · rw [wi_row e]
theorem VCm {m V : Nat} {σ : Wd} {x : Int32} : VC m V σ (wi σ m 3 x) := fun k i _ _ h3 => by
  by_cases e : k = m
  · subst e
    rw [wi_ne (h3 rfl)]
  · rw [wi_row e]
def dV (d : MD) (V : Nat) (a b c e : Int) : MD := ((fun j => if j = V then a else d.kd j, fun j => if j = V then b else d.lo j, fun j => if j = V then c else d.fe j, fun j => if j = V then e else d.le j), (fun j => if j = V then 0 else d.lv j), d.pr, d.sz)
theorem MDok_dV {d : MD} {V : Nat} {a b c e : Int} (h : MDok d V) (hV : V < 5) (ha : 0 ≤ a ∧ a ≤ 2) (hb : 1 ≤ b ∧ b ≤ 20) (hc : -9 ≤ c ∧ c ≤ 9) (he : 0 ≤ e ∧ e ≤ 300) : MDok (dV d V a b c e) (V + 1) := by
  refine ⟨by omega, fun v hv => ?_⟩
  show (0 ≤ (if v = V then a else d.kd v) ∧ (if v = V then a else d.kd v) ≤ 2) ∧ (1 ≤ (if v = V then b else d.lo v) ∧ (if v = V then b else d.lo v) ≤ 20) ∧ (-9 ≤ (if v = V then c else d.fe v) ∧ (if v = V then c else d.fe v) ≤ 9) ∧ (0 ≤ (if v = V then e else d.le v) ∧ (if v = V then e else d.le v) ≤ 300) ∧ (if v = V then 0 else d.lv v) ≤ 6 ∧ lvOk d.pr d.sz (if v = V then 0 else d.lv v) (6 * v)
  by_cases q : v = V
  · rw [if_pos q, if_pos q, if_pos q, if_pos q, if_pos q]
    exact ⟨ha, hb, hc, he, by omega, fun i h1 h2 => by omega⟩
  · rw [if_neg q, if_neg q, if_neg q, if_neg q, if_neg q]
    exact h.2 v (by omega)
/-- the state of the reference behind a venue's line -/
def vF (τ : Wd) (V : Nat) (x : Int64) (a b c e g : Int) : Wd := wi (wi (wi (wi (wi (wi (wi (wl τ 111 V x) 106 (5 * V) (I a)) 106 (5 * V + 1) (I b)) 106 (5 * V + 2) (I e)) 106 (5 * V + 3) (I g)) 106 (5 * V + 4) (I 0)) 110 V (I c)) 102 19 (I ((V : Int) + 1))
theorem vF_w {τ τ1 τ2 τ3 τ4 τ5 τ6 : Wd} {V : Nat} {a b c e g : Int} (hV : V < 5) (n1 : f_X7_next τ = some (0, τ1)) (n2 : f_X7_readKind τ1 = some (I a, τ2)) (n3 : f_X7_readPart 9 (I 1) (I 20) τ2 = some (I b, τ3)) (n4 : f_X7_readFeeOf τ3 = some (I c, τ4)) (n5 : f_X7_readPart 11 (I 0) (I 300) τ4 = some (I e, τ5)) (n6 : f_X7_readPart 12 (I 1) (I 9) τ5 = some (I g, τ6)) (h33 : τ6.1 102 33 = I 0) (h19 : τ6.1 102 19 = I (V : Int)) : f_X7_readVenueLine_49 τ = some (0, vF τ6 V (τ.2.1 102 34) a b c e g) := by
  have t0 : ((5 : Int) * (V : Int) + 0).toNat = 5 * V := by omega
  have t1 : ((5 : Int) * (V : Int) + 1).toNat = 5 * V + 1 := by omega
  have t2 : ((5 : Int) * (V : Int) + 2).toNat = 5 * V + 2 := by omega
  have t3 : ((5 : Int) * (V : Int) + 3).toNat = 5 * V + 3 := by omega
  have t4 : ((5 : Int) * (V : Int) + 4).toNat = 5 * V + 4 := by omega
  unfold f_X7_readVenueLine_49 vF
  simp (disch := omega) only [↓reduceIte, gd_t, bd_s, nm_W, nm_I, I_add, I_sub, I_mul, I_neg, I_le_t, I_le_f, I_lt_t, I_lt_f, I_eq_t, I_eq_f, I_inb', I_ix', Int.toNat_natCast, decide_true, decide_false, Bool.not_false, Bool.not_true, if_true, if_false, wi_eq, wi_eq', wi_ne, wi_row, wi_2, N0, N1, N2, N3, N4, N5, N6, N7, N8, N9, N10, N11, N12, N13, N14, N15, N16, N17, N18, N19, N20, N21, N22, N23, N24, N25, N26, N27, N28, N29, N30, N31, N32, N33, N34, N35, N36, N37, N38, N39, N40, N41, N42, N43, N45, N48, N57, N59, N88, N89, N97, N99, N120, N121, N122, N179, N200, N255, N300, N400, N880, N900, N999, N1019, N50000000, N100000000, N1000000000, N2147483647, N2147483648, n1, n2, n3, n4, n5, n6, h33, h19, t0, t1, t2, t3, t4, wl_1]
theorem ven_good {m V E N pl' : Nat} {bt : Nat → Int} {σ τ σ6 τ6 : Wd} {W p L a b c e g k' n' : Int} {l l' : List Int} {d : MD} {dl et : Nat → Int} (hm : 10 < m) (hV : V < 5) (hW : W ≠ 0) (hP : PRD m σ τ W p L V E d dl et) (hl : ltr l) (l6 : l.length ≤ 6)
    (hv : VC m V σ (wi (wi σ6 (m + 5) V (I g)) m 3 (I ((V : Int) + 1)))) (hr : RX τ τ6) (hT : TK σ6 τ6 N bt pl' k' l' n') (e3 : σ6.1 3 V = I (w27 l)) (e1 : σ6.1 (m + 1) V = I a) (e2 : σ6.1 (m + 2) V = I b) (e4 : σ6.1 (m + 3) V = I c) (e5 : σ6.1 (m + 4) V = I e)
    (ha : 0 ≤ a ∧ a ≤ 2) (hb : 1 ≤ b ∧ b ≤ 20) (hc : -9 ≤ c ∧ c ≤ 9) (he : 0 ≤ e ∧ e ≤ 300) (hg : 1 ≤ g ∧ g ≤ 9) :
    PRD m (wi (wi σ6 (m + 5) V (I g)) m 3 (I ((V : Int) + 1))) (vF τ6 V (w64 l) a b c e g) W p L (V + 1) E (dV d V a b c e) (fun j => if j = V then g else dl j) et ∧ TK (wi (wi σ6 (m + 5) V (I g)) m 3 (I ((V : Int) + 1))) (vF τ6 V (w64 l) a b c e g) N bt pl' k' l' n' := by
  obtain ⟨⟨p0, p16, pW0, pW1, pW2⟩, pp, ⟨q1, q2, q3⟩, ⟨nm, q4⟩, q5, ⟨q6, q7⟩, q8⟩ := hP
  obtain ⟨σF, hσ⟩ : ∃ s, s = wi (wi σ6 (m + 5) V (I g)) m 3 (I ((V : Int) + 1)) := ⟨_, rfl⟩
  obtain ⟨τF, hτ⟩ : ∃ s, s = vF τ6 V (w64 l) a b c e g := ⟨_, rfl⟩
  have f1 : ∀ k, k ≠ 1 → k ≠ 3 → k < m ∨ m + 5 < k → σF.1 k = σ.1 k := fun k g1 g2 g3 => by rw [hσ]; exact funext fun i => hv k i g1 (fun q => by omega) (fun q => by omega)
  have f2 : ∀ k i, k = 3 ∨ (m + 1 ≤ k ∧ k ≤ m + 5) → i ≠ V → σF.1 k i = σ.1 k i := fun k i g1 g2 => by rw [hσ]; exact hv k i (by omega) (fun _ => g2) (fun q => by omega)
  have f3 : ∀ i, i ≠ 3 → σF.1 m i = σ.1 m i := fun i g1 => by rw [hσ]; exact hv m i (by omega) (fun q => by omega) (fun _ => g1)
  have r1 : ∀ k, k ≠ 102 → k ≠ 106 → k ≠ 110 → τF.1 k = τ.1 k := fun k g1 g2 g3 => by
    rw [hτ]; unfold vF
    rw [wi_row g1, wi_row g3, wi_row g2, wi_row g2, wi_row g2, wi_row g2, wi_row g2, wl_1, hr.1 k g1]
  have r2 : ∀ i, i ≠ 19 → τF.1 102 i = τ6.1 102 i := fun i g1 => by
    rw [hτ]; unfold vF
    rw [wi_ne g1, wi_row (by decide), wi_row (by decide), wi_row (by decide), wi_row (by decide), wi_row (by decide), wi_row (by decide), wl_1]
  have r3 : ∀ i, i < 5 * V → τF.1 106 i = τ.1 106 i := fun i g1 => by
    rw [hτ]; unfold vF
    rw [wi_row (by decide), wi_row (by decide), wi_ne (by omega), wi_ne (by omega), wi_ne (by omega), wi_ne (by omega), wi_ne (by omega), wl_1, hr.1 106 (by decide)]
  have r4 : ∀ i, i ≠ V → τF.1 110 i = τ.1 110 i := fun i g1 => by
    rw [hτ]; unfold vF
    rw [wi_row (by decide), wi_ne g1, wi_row (by decide), wi_row (by decide), wi_row (by decide), wi_row (by decide), wi_row (by decide), wl_1, hr.1 110 (by decide)]
  have r5 : ∀ i, i ≠ V → τF.2.1 111 i = τ.2.1 111 i := fun i g1 => by
    rw [hτ]; unfold vF
    rw [wi_2, wi_2, wi_2, wi_2, wi_2, wi_2, wi_2, wl_ne g1, hr.2.2.1 111 (by decide)]
  rw [← hσ, ← hτ]
  constructor
  · refine ⟨⟨by rw [f3 0 (by decide)]; exact p0, by rw [r2 16 (by decide), hr.2.1 16 (by decide)]; exact p16, pW0, pW1, fun q => absurd q hW⟩, fun q => ?_, ⟨MDok_dV q1 hV ha hb hc he, by rw [hσ, wi_eq]; rfl, by rw [hτ]; unfold vF; rw [wi_eq]; rfl⟩, ⟨fun j => if j = V then l else nm j, by omega, fun v hv => ?_⟩, fun v hv => ?_, ⟨fun v g1 g2 => by rw [f1 (m + 6) (by omega) (by omega) (by omega)]; exact q6 v (by omega) g2, fun v g1 => by rw [f1 (m + 7) (by omega) (by omega) (by omega)]; exact q7 v g1⟩, ?_⟩
    · rw [f3 1 (by decide), f3 2 (by decide), r2 17 (by decide), r2 18 (by decide), hr.2.1 17 (by decide), hr.2.1 18 (by decide)]
      exact pp q
    · show ltr (if v = V then l else nm v) ∧ (if v = V then l else nm v).length ≤ 6 ∧ σF.1 3 v = I (w27 (if v = V then l else nm v)) ∧ τF.2.1 111 v = w64 (if v = V then l else nm v)
      by_cases q : v = V
      · rw [if_pos q]
        refine ⟨hl, l6, ?_, ?_⟩
        · rw [hσ, q, wi_row (by omega), wi_row (by omega)]; exact e3
        · rw [hτ, q]; unfold vF; rw [wi_2, wi_2, wi_2, wi_2, wi_2, wi_2, wi_2, wl_eq]
      · rw [if_neg q, f2 3 v (Or.inl rfl) q, r5 v q]
        exact q4.2 v (by omega)
    · unfold PV
      show (σF.1 (m + 1) v = I (if v = V then a else d.kd v) ∧ τF.1 106 (5 * v) = I (if v = V then a else d.kd v)) ∧ (σF.1 (m + 2) v = I (if v = V then b else d.lo v) ∧ τF.1 106 (5 * v + 1) = I (if v = V then b else d.lo v)) ∧ (σF.1 (m + 3) v = I (if v = V then c else d.fe v) ∧ τF.1 110 v = I (if v = V then c else d.fe v)) ∧ (σF.1 (m + 4) v = I (if v = V then e else d.le v) ∧ τF.1 106 (5 * v + 2) = I (if v = V then e else d.le v)) ∧ (σF.1 (m + 5) v = I (if v = V then g else dl v) ∧ τF.1 106 (5 * v + 3) = I (if v = V then g else dl v) ∧ 1 ≤ (if v = V then g else dl v) ∧ (if v = V then g else dl v) ≤ 9) ∧ (σF.1 (m + 6) v = I ((if v = V then 0 else d.lv v : Nat) : Int) ∧ τF.1 106 (5 * v + 4) = I ((if v = V then 0 else d.lv v : Nat) : Int))
        ∧ ∀ k, k < (if v = V then 0 else d.lv v) → (σF.1 (m + 8) (6 * v + k) = I (d.pr (6 * v + k)) ∧ τF.1 107 (6 * v + k) = I (d.pr (6 * v + k))) ∧ (σF.1 (m + 9) (6 * v + k) = I (d.sz (6 * v + k)) ∧ τF.1 109 (6 * v + k) = I (d.sz (6 * v + k)))
      by_cases q : v = V
      · subst q
        rw [if_pos rfl, if_pos rfl, if_pos rfl, if_pos rfl, if_pos rfl, if_pos rfl]
        refine ⟨⟨?_, ?_⟩, ⟨?_, ?_⟩, ⟨?_, ?_⟩, ⟨?_, ?_⟩, ⟨?_, ?_, hg.1, hg.2⟩, ⟨?_, ?_⟩, fun k hk => absurd hk (by omega)⟩
        · rw [hσ, wi_row (by omega), wi_row (by omega)]; exact e1
        · rw [hτ]; unfold vF; simp (disch := omega) only [wi_eq, wi_eq', wi_ne, wi_row, wi_2]
        · rw [hσ, wi_row (by omega), wi_row (by omega)]; exact e2
        · rw [hτ]; unfold vF; simp (disch := omega) only [wi_eq, wi_eq', wi_ne, wi_row, wi_2]
        · rw [hσ, wi_row (by omega), wi_row (by omega)]; exact e4
        · rw [hτ]; unfold vF; simp (disch := omega) only [wi_eq, wi_eq', wi_ne, wi_row, wi_2]
        · rw [hσ, wi_row (by omega), wi_row (by omega)]; exact e5
        · rw [hτ]; unfold vF; simp (disch := omega) only [wi_eq, wi_eq', wi_ne, wi_row, wi_2]
        · rw [hσ, wi_row (by omega), wi_eq]
        · rw [hτ]; unfold vF; simp (disch := omega) only [wi_eq, wi_eq', wi_ne, wi_row, wi_2]
        · rw [f1 (m + 6) (by omega) (by omega) (by omega)]; exact q6 v (Nat.le_refl _) hV
        · rw [hτ]; unfold vF; simp (disch := omega) only [wi_eq, wi_eq', wi_ne, wi_row, wi_2]; rfl
      · have lt : v < V := by omega
        rw [if_neg q, if_neg q, if_neg q, if_neg q, if_neg q, if_neg q]
        rw [f2 (m + 1) v (by omega) q, f2 (m + 2) v (by omega) q, f2 (m + 3) v (by omega) q, f2 (m + 4) v (by omega) q, f2 (m + 5) v (by omega) q, f1 (m + 6) (by omega) (by omega) (by omega), f1 (m + 8) (by omega) (by omega) (by omega), f1 (m + 9) (by omega) (by omega) (by omega), r3 (5 * v) (by omega), r3 (5 * v + 1) (by omega), r3 (5 * v + 2) (by omega), r3 (5 * v + 3) (by omega), r3 (5 * v + 4) (by omega), r4 v q, r1 107 (by decide) (by decide) (by decide), r1 109 (by decide) (by decide) (by decide)]
        exact q5 v lt
    · obtain ⟨x1, x2, x3, x4, x5⟩ := q8
      refine ⟨x1, by rw [f3 4 (by decide)]; exact x2, by rw [r2 20 (by decide), hr.2.1 20 (by decide)]; exact x3, fun i hi => ?_, x5⟩
      obtain ⟨u, k, z, y1, y2, y3⟩ := x4 i hi
      refine ⟨u, k, z, by omega, ?_, ?_⟩
      · show k < (if u = V then 0 else d.lv u)
        rw [if_neg (by omega)]
        exact y2
      · rw [f1 (m + 10) (by omega) (by omega) (by omega), f1 (m + 11) (by omega) (by omega) (by omega), f1 (m + 12) (by omega) (by omega) (by omega), r1 108 (by decide) (by decide) (by decide)]
        exact y3
  · refine TK_c hT (fun i _ => ?_) (fun i g1 g2 => r2 i (by omega)) ?_
    · rw [hσ, wi_row (by omega), wi_row (by omega)]
    · rw [hτ]; unfold vF; rw [wi_2, wi_2, wi_2, wi_2, wi_2, wi_2, wi_2, wl_row (by decide)]
end
section
/-! PURE: the text: a venue's line, walked -/
theorem wI {a : Nat} (h : a < 5) : inb (I (a : Int)) 5 = true ∧ ix (I (a : Int)) = a := ⟨inI h (by decide), ixI (by omega)⟩
set_option maxHeartbeats 2000000 in
theorem ven49_ok {m N pl V E : Nat} {bt : Nat → Int} {σ τ : Wd} {k n W p L : Int} {l : List Int} {d : MD} {dl et : Nat → Int} (hm : 10 < m) (hB : BY σ τ N bt) (hT : TK σ τ N bt pl k l n) (hk : k = 1) (hV : V < 5) (hW : W ≠ 0) (hP : PRD m σ τ W p L V E d dl et) :
    (∃ (σ' τ' : Wd), vR1 m (I (V : Int)) σ = some (I 0, σ') ∧ f_X7_readVenueLine_49 τ = some (0, τ') ∧ BD σ' τ' ∧ LC m σ σ' ∧ LF τ τ')
    ∨ (∃ (σ' τ' : Wd) (pl' : Nat) (k' : Int) (l' : List Int) (n' : Int) (d' : MD) (dl' : Nat → Int), vR1 m (I (V : Int)) σ = some (I 1, σ') ∧ f_X7_readVenueLine_49 τ = some (0, τ') ∧ PRD m σ' τ' W p L (V + 1) E d' dl' et ∧ TK σ' τ' N bt pl' k' l' n' ∧ pl ≤ pl' ∧ LC m σ σ' ∧ LF τ τ') := by
  obtain ⟨iv, xv⟩ := wI hV
  obtain ⟨t1, t2, t3, t4⟩ := TK_1 hT hk
  have h3 := hP.2.2.1.2.1
  have h19 := hP.2.2.1.2.2
  have lc3 : LC m σ (wi σ 3 V (I (w27 l))) := ⟨fun k _ h _ => wi_row h, rfl⟩
  unfold vR1
  rw [iv, gd_t, nm_W, xv, t3]
  have hB0 : BY (wi σ 3 V (I (w27 l))) τ N bt := BYw (m := m) hB (by decide)
  obtain ⟨σ1, τ1, pl1, k1, l1, n1, a1, a2, a3, a4, a5, a6⟩ := step_ok hB0 (TKw (j := 3) (i := V) (x := I (w27 l)) hT (by decide)) (by omega)
  have hB1 := BY_f hB0 (CFG a5) a6
  rw [a1, bd_s]
  rcases kind_ok hB1 a3 with ⟨σ2, τ2, b1, b2, b3, b4, b5⟩ | ⟨σ2, τ2, v2, pl2, k2, l2, n2, b1, b2, b3, b3', b4, b5, b6, b7, b8⟩
  · obtain ⟨f, pf, -, -, hF⟩ := id b3
    have e4 := ft_part (w := 9) (lo := I 1) (hi := I 20) (by decide) hF
    have e5 := ft_fee hF
    have e6 := ft_part (w := 11) (lo := I 0) (hi := I 300) (by decide) hF
    have e7 := ft_part (w := 12) (lo := I 1) (hi := I 9) (by decide) hF
    obtain ⟨f1, f2, f3, f4, f5⟩ := hF
    refine Or.inl ⟨σ2, τ2, ?_, ?_, b3, LCt lc3 (LCt (CGL (CFG a5)) (CGL b4)), LFt (RXL a6) (RXL b5)⟩
    · rw [b1, bd_s, if_pos (show I 0 = (0 : Int32) from rfl)]
      rfl
    · unfold f_X7_readVenueLine_49
      simp (disch := omega) only [↓reduceIte, gd_t, bd_s, nm_W, nm_I, I_add, I_sub, I_mul, I_neg, I_le_t, I_le_f, I_lt_t, I_lt_f, I_eq_t, I_eq_f, I_inb', I_ix', Int.toNat_natCast, decide_true, decide_false, Bool.not_false, Bool.not_true, if_true, if_false, wi_eq, wi_eq', wi_ne, wi_row, wi_2, N0, N1, N2, N3, N4, N5, N6, N7, N8, N9, N10, N11, N12, N13, N14, N15, N16, N17, N18, N19, N20, N21, N22, N23, N24, N25, N26, N27, N28, N29, N30, N31, N32, N33, N34, N35, N36, N37, N38, N39, N40, N41, N42, N43, N45, N48, N57, N59, N88, N89, N97, N99, N120, N121, N122, N179, N200, N255, N300, N400, N880, N900, N999, N1019, N50000000, N100000000, N1000000000, N2147483647, N2147483648, a2, b2, e4, e5, e6, e7, f1]
  · rw [b1, bd_s, if_neg (show ¬ I 1 = (0 : Int32) by decide)]
    unfold vR2
    rw [iv, gd_t, nm_W, xv, b4]
    have hB2 : BY (wi σ2 (m + 1) V (I v2)) τ2 N bt := BYw (m := m) (BY_f hB1 b7 b8) (by omega)
    rcases part_ok (w := 9) (lo := 1) (hi := 20) (K0 := f_X5_readVenue_87 m) (K1 := vR3 m (I (V : Int))) (fun _ => rfl) (by decide) hB2 (TKw (j := m + 1) (i := V) (x := I v2) b5 (by omega)) (by omega) (by omega) with ⟨σ3, τ3, c1, c2, c3, c4, c5⟩ | ⟨σ3, τ3, v3, pl3, k3, l3, n3, c1, c2, c3, c3', c4, c5, c6, c7, c8⟩
    · obtain ⟨f, pf, -, -, hF⟩ := id c3
      have e5 := ft_fee hF
      have e6 := ft_part (w := 11) (lo := I 0) (hi := I 300) (by decide) hF
      have e7 := ft_part (w := 12) (lo := I 1) (hi := I 9) (by decide) hF
      obtain ⟨f1, f2, f3, f4, f5⟩ := hF
      refine Or.inl ⟨σ3, τ3, c1, ?_, c3, LCt lc3 (LCt (CGL (CFG a5)) (LCt (CGL b7) (LCt (LCw (by omega)) (CGL c4)))), LFt (RXL a6) (LFt (RXL b8) (RXL c5))⟩
      unfold f_X7_readVenueLine_49
      simp (disch := omega) only [↓reduceIte, gd_t, bd_s, nm_W, nm_I, I_add, I_sub, I_mul, I_neg, I_le_t, I_le_f, I_lt_t, I_lt_f, I_eq_t, I_eq_f, I_inb', I_ix', Int.toNat_natCast, decide_true, decide_false, Bool.not_false, Bool.not_true, if_true, if_false, wi_eq, wi_eq', wi_ne, wi_row, wi_2, N0, N1, N2, N3, N4, N5, N6, N7, N8, N9, N10, N11, N12, N13, N14, N15, N16, N17, N18, N19, N20, N21, N22, N23, N24, N25, N26, N27, N28, N29, N30, N31, N32, N33, N34, N35, N36, N37, N38, N39, N40, N41, N42, N43, N45, N48, N57, N59, N88, N89, N97, N99, N120, N121, N122, N179, N200, N255, N300, N400, N880, N900, N999, N1019, N50000000, N100000000, N1000000000, N2147483647, N2147483648, a2, b2, c2, e5, e6, e7, f1]
    · rw [c1]
      unfold vR3
      rw [iv, gd_t, nm_W, xv, c4]
      have hB3 : BY (wi σ3 (m + 2) V (I v3)) τ3 N bt := BYw (m := m) (BY_f hB2 c7 c8) (by omega)
      rcases fee_ok hB3 (TKw (j := m + 2) (i := V) (x := I v3) c5 (by omega)) with ⟨σ4, τ4, y4, d1, d2, d3, d4, d5⟩ | ⟨σ4, τ4, v4, pl4, k4, l4, n4, d1, d2, d3, d3', d4, d5, d6, d7, d8⟩
      · obtain ⟨f, pf, -, -, hF⟩ := id d3
        have e6 := ft_part (w := 11) (lo := I 0) (hi := I 300) (by decide) hF
        have e7 := ft_part (w := 12) (lo := I 1) (hi := I 9) (by decide) hF
        obtain ⟨f1, f2, f3, f4, f5⟩ := hF
        refine Or.inl ⟨σ4, τ4, ?_, ?_, d3, LCt lc3 (LCt (CGL (CFG a5)) (LCt (CGL b7) (LCt (LCw (by omega)) (LCt (CGL c7) (LCt (LCw (by omega)) (CGL d4)))))), LFt (RXL a6) (LFt (RXL b8) (LFt (RXL c8) (RXL d5)))⟩
        · rw [d1, bd_s, if_pos (show I 0 = (0 : Int32) from rfl)]
          rfl
        · unfold f_X7_readVenueLine_49
          simp (disch := omega) only [↓reduceIte, gd_t, bd_s, nm_W, nm_I, I_add, I_sub, I_mul, I_neg, I_le_t, I_le_f, I_lt_t, I_lt_f, I_eq_t, I_eq_f, I_inb', I_ix', Int.toNat_natCast, decide_true, decide_false, Bool.not_false, Bool.not_true, if_true, if_false, wi_eq, wi_eq', wi_ne, wi_row, wi_2, N0, N1, N2, N3, N4, N5, N6, N7, N8, N9, N10, N11, N12, N13, N14, N15, N16, N17, N18, N19, N20, N21, N22, N23, N24, N25, N26, N27, N28, N29, N30, N31, N32, N33, N34, N35, N36, N37, N38, N39, N40, N41, N42, N43, N45, N48, N57, N59, N88, N89, N97, N99, N120, N121, N122, N179, N200, N255, N300, N400, N880, N900, N999, N1019, N50000000, N100000000, N1000000000, N2147483647, N2147483648, a2, b2, c2, d2, e6, e7, f1]
      · rw [d1, bd_s, if_neg (show ¬ I 1 = (0 : Int32) by decide)]
        unfold vR4
        rw [iv, gd_t, nm_W, xv, d4]
        have hB4 : BY (wi σ4 (m + 3) V (I v4)) τ4 N bt := BYw (m := m) (BY_f hB3 d7 d8) (by omega)
        rcases part_ok (w := 11) (lo := 0) (hi := 300) (K0 := f_X5_readVenue_138 m) (K1 := vR5 m (I (V : Int))) (fun _ => rfl) (by decide) hB4 (TKw (j := m + 3) (i := V) (x := I v4) d5 (by omega)) (by omega) (by omega) with ⟨σ5, τ5, g1, g2, g3, g4, g5⟩ | ⟨σ5, τ5, v5, pl5, k5, l5, n5, g1, g2, g3, g3', g4, g5, g6, g7, g8⟩
        · obtain ⟨f, pf, -, -, hF⟩ := id g3
          have e7 := ft_part (w := 12) (lo := I 1) (hi := I 9) (by decide) hF
          obtain ⟨f1, f2, f3, f4, f5⟩ := hF
          refine Or.inl ⟨σ5, τ5, g1, ?_, g3, LCt lc3 (LCt (CGL (CFG a5)) (LCt (CGL b7) (LCt (LCw (by omega)) (LCt (CGL c7) (LCt (LCw (by omega)) (LCt (CGL d7) (LCt (LCw (by omega)) (CGL g4)))))))), LFt (RXL a6) (LFt (RXL b8) (LFt (RXL c8) (LFt (RXL d8) (RXL g5))))⟩
          unfold f_X7_readVenueLine_49
          simp (disch := omega) only [↓reduceIte, gd_t, bd_s, nm_W, nm_I, I_add, I_sub, I_mul, I_neg, I_le_t, I_le_f, I_lt_t, I_lt_f, I_eq_t, I_eq_f, I_inb', I_ix', Int.toNat_natCast, decide_true, decide_false, Bool.not_false, Bool.not_true, if_true, if_false, wi_eq, wi_eq', wi_ne, wi_row, wi_2, N0, N1, N2, N3, N4, N5, N6, N7, N8, N9, N10, N11, N12, N13, N14, N15, N16, N17, N18, N19, N20, N21, N22, N23, N24, N25, N26, N27, N28, N29, N30, N31, N32, N33, N34, N35, N36, N37, N38, N39, N40, N41, N42, N43, N45, N48, N57, N59, N88, N89, N97, N99, N120, N121, N122, N179, N200, N255, N300, N400, N880, N900, N999, N1019, N50000000, N100000000, N1000000000, N2147483647, N2147483648, a2, b2, c2, d2, g2, e7, f1]
        · rw [g1]
          unfold vR5
          rw [iv, gd_t, nm_W, xv, g4]
          have hB5 : BY (wi σ5 (m + 4) V (I v5)) τ5 N bt := BYw (m := m) (BY_f hB4 g7 g8) (by omega)
          rcases part_ok (w := 12) (lo := 1) (hi := 9) (K0 := f_X5_readVenue_169 m) (K1 := vR6 m (I (V : Int))) (fun _ => rfl) (by decide) hB5 (TKw (j := m + 4) (i := V) (x := I v5) g5 (by omega)) (by omega) (by omega) with ⟨σ6, τ6, i1, i2, i3, i4, i5⟩ | ⟨σ6, τ6, v6, pl6, k6, l6, n6, i1, i2, i3, i3', i4, i5, i6, i7, i8⟩
          · obtain ⟨f, pf, -, -, hF⟩ := id i3
            obtain ⟨f1, f2, f3, f4, f5⟩ := hF
            refine Or.inl ⟨σ6, τ6, i1, ?_, i3, LCt lc3 (LCt (CGL (CFG a5)) (LCt (CGL b7) (LCt (LCw (by omega)) (LCt (CGL c7) (LCt (LCw (by omega)) (LCt (CGL d7) (LCt (LCw (by omega)) (LCt (CGL g7) (LCt (LCw (by omega)) (CGL i4)))))))))), LFt (RXL a6) (LFt (RXL b8) (LFt (RXL c8) (LFt (RXL d8) (LFt (RXL g8) (RXL i5)))))⟩
            unfold f_X7_readVenueLine_49
            simp (disch := omega) only [↓reduceIte, gd_t, bd_s, nm_W, nm_I, I_add, I_sub, I_mul, I_neg, I_le_t, I_le_f, I_lt_t, I_lt_f, I_eq_t, I_eq_f, I_inb', I_ix', Int.toNat_natCast, decide_true, decide_false, Bool.not_false, Bool.not_true, if_true, if_false, wi_eq, wi_eq', wi_ne, wi_row, wi_2, N0, N1, N2, N3, N4, N5, N6, N7, N8, N9, N10, N11, N12, N13, N14, N15, N16, N17, N18, N19, N20, N21, N22, N23, N24, N25, N26, N27, N28, N29, N30, N31, N32, N33, N34, N35, N36, N37, N38, N39, N40, N41, N42, N43, N45, N48, N57, N59, N88, N89, N97, N99, N120, N121, N122, N179, N200, N255, N300, N400, N880, N900, N999, N1019, N50000000, N100000000, N1000000000, N2147483647, N2147483648, a2, b2, c2, d2, g2, i2, f1]
          · have keyR : RX τ τ6 := RXt a6 (RXt b8 (RXt c8 (RXt d8 (RXt g8 i8))))
            have keyV : VC m V σ (wi (wi σ6 (m + 5) V (I v6)) m 3 (I ((V : Int) + 1))) := VCt (VCw (Or.inl rfl)) (VCt (VCg (CFG a5)) (VCt (VCg b7) (VCt (VCw (by omega)) (VCt (VCg c7) (VCt (VCw (by omega)) (VCt (VCg d7) (VCt (VCw (by omega)) (VCt (VCg g7) (VCt (VCw (by omega)) (VCt (VCg i7) (VCt (VCw (by omega)) VCm)))))))))))
            have keyL : LC m σ (wi (wi σ6 (m + 5) V (I v6)) m 3 (I ((V : Int) + 1))) := LCt lc3 (LCt (CGL (CFG a5)) (LCt (CGL b7) (LCt (LCw (by omega)) (LCt (CGL c7) (LCt (LCw (by omega)) (LCt (CGL d7) (LCt (LCw (by omega)) (LCt (CGL g7) (LCt (LCw (by omega)) (LCt (CGL i7) (LCt (LCw (by omega)) (LCw (by omega)))))))))))))
            have e3 : σ6.1 3 V = I (w27 l) := by
              rw [i7.1 3 (by decide), wi_row (by omega), g7.1 3 (by decide), wi_row (by omega), d7.1 3 (by decide), wi_row (by omega), c7.1 3 (by decide), wi_row (by omega), b7.1 3 (by decide), a5.1 3 (by decide), wi_eq]
            have e1 : σ6.1 (m + 1) V = I v2 := by
              rw [i7.1 _ (by omega), wi_row (by omega), g7.1 _ (by omega), wi_row (by omega), d7.1 _ (by omega), wi_row (by omega), c7.1 _ (by omega), wi_eq]
            have e2 : σ6.1 (m + 2) V = I v3 := by
              rw [i7.1 _ (by omega), wi_row (by omega), g7.1 _ (by omega), wi_row (by omega), d7.1 _ (by omega), wi_eq]
            have e4 : σ6.1 (m + 3) V = I v4 := by
              rw [i7.1 _ (by omega), wi_row (by omega), g7.1 _ (by omega), wi_eq]
            have e5 : σ6.1 (m + 4) V = I v5 := by
              rw [i7.1 _ (by omega), wi_eq]
            have em : σ6.1 m 3 = I (V : Int) := by
              rw [i7.1 m (by omega), wi_row (by omega), g7.1 m (by omega), wi_row (by omega), d7.1 m (by omega), wi_row (by omega), c7.1 m (by omega), wi_row (by omega), b7.1 m (by omega), a5.1 m (by omega), wi_row (by omega)]
              exact h3
            have g33 := (TK_33 i5).1
            have fw := vF_w hV a2 b2 c2 d2 g2 i2 g33 (by rw [keyR.2.1 19 (by decide)]; exact h19)
            rw [t4] at fw
            obtain ⟨z1, z2⟩ := ven_good hm hV hW hP t1 t2 keyV keyR i5 e3 e1 e2 e4 e5 ⟨b3, b3'⟩ ⟨c3, c3'⟩ ⟨d3, d3'⟩ ⟨g3, g3'⟩ ⟨i3, i3'⟩
            refine Or.inr ⟨_, _, pl6, k6, l6, n6, _, _, ?_, fw, z1, z2, by omega, keyL, ?_⟩
            · rw [i1]
              unfold vR6
              rw [iv, gd_t, nm_W, xv, i4, nm_W, wi_row (show m ≠ m + 5 by omega), em, show I (V : Int) + (1 : Int32) = I ((V : Int) + 1) from I_add _ 1]
              rfl
            · unfold vF
              exact LFt (RXL keyR) (LFt LFl (LFt (LFw (by omega)) (LFt (LFw (by omega)) (LFt (LFw (by omega)) (LFt (LFw (by omega)) (LFt (LFw (by omega)) (LFt (LFw (by omega)) (LFv (by omega)))))))))
theorem venue_ok {m N pl V E : Nat} {bt : Nat → Int} {σ τ : Wd} {k n W p L : Int} {l : List Int} {d : MD} {dl et : Nat → Int} (hm : 10 < m) (hB : BY σ τ N bt) (hT : TK σ τ N bt pl k l n) (hk : k = 1) (hP : PRD m σ τ W p L V E d dl et) :
    (∃ (σ' τ' : Wd), (if (5 : Int32) ≤ (σ.1 m 3) then (f_X5_readLine_39 m (0 : Int32) σ) else (f_X5_readLine_39 m (1 : Int32) σ)) = some (I 0, σ') ∧ f_X7_readVenueLine τ = some (0, τ') ∧ BD σ' τ' ∧ LC m σ σ' ∧ LF τ τ')
    ∨ (∃ (σ' τ' : Wd) (pl' : Nat) (k' : Int) (l' : List Int) (n' : Int) (d' : MD) (dl' : Nat → Int) (V' : Nat), (if (5 : Int32) ≤ (σ.1 m 3) then (f_X5_readLine_39 m (0 : Int32) σ) else (f_X5_readLine_39 m (1 : Int32) σ)) = some (I 1, σ') ∧ f_X7_readVenueLine τ = some (0, τ') ∧ PRD m σ' τ' W p L V' E d' dl' et ∧ TK σ' τ' N bt pl' k' l' n' ∧ pl ≤ pl' ∧ LC m σ σ' ∧ LF τ τ') := by
  have V5 := hP.2.2.1.1.1
  have h3 := hP.2.2.1.2.1
  have h19 := hP.2.2.1.2.2
  obtain ⟨x, hx, hxv⟩ : ∃ x : Int, (x = 0 ∨ x = 1) ∧ ((x = 1) ↔ V = 5) := by
    by_cases c : V = 5
    · exact ⟨1, Or.inr rfl, by omega⟩
    · exact ⟨0, Or.inl rfl, by omega⟩
  have ec : (if (5 : Int32) ≤ (σ.1 m 3) then (f_X5_readLine_39 m (0 : Int32) σ) else (f_X5_readLine_39 m (1 : Int32) σ)) = f_X5_readLine_39 m (I (1 - x)) σ := by
    rw [h3]
    by_cases c : V = 5
    · rw [hxv.mpr c, if_pos (show (5 : Int32) ≤ I (V : Int) by rw [c]; decide)]
      rfl
    · have x0 : x = 0 := by omega
      rw [x0, if_neg (show ¬ (5 : Int32) ≤ I (V : Int) by show ¬ I 5 ≤ I (V : Int); rw [I_le (by unfold R; omega) (by unfold R; omega)]; omega)]
      rfl
  have er : f_X7_readVenueLine τ = f_X7_readVenueLine_14 (I x) τ := by
    unfold f_X7_readVenueLine
    rw [h19]
    by_cases c : V = 5
    · rw [hxv.mpr c, if_pos (show I (V : Int) = (5 : Int32) by rw [c]; rfl)]
      rfl
    · have x0 : x = 0 := by omega
      rw [x0, if_neg (show ¬ I (V : Int) = (5 : Int32) by show ¬ I (V : Int) = I 5; rw [I_eq (by unfold R; omega) (by unfold R; omega)]; omega)]
      rfl
  rw [ec, er]
  unfold f_X5_readLine_39 f_X7_readVenueLine_14
  rcases opens_ok hm hx hB hT hk hP.1.1 hP.1.2.1 ⟨hP.1.2.2.1, hP.1.2.2.2.1⟩ with ⟨σ1, τ1, a1, a2, a3, a4, a5⟩ | ⟨σ1, τ1, pl1, k1, l1, n1, x0, W0, a1, a2, a3, a4, a5, a6⟩
  · obtain ⟨f, pf, -, -, hF⟩ := id a3
    have e0 := ft_name hF
    have e1 := ft_flaw (c := 1) hF
    have e49 := ft_ven49 hF
    have f1 := hF.1
    have f2 := hF.2.1
    have f3 := hF.2.2.1
    refine Or.inl ⟨σ1, τ1, ?_, ?_, a3, CGL a4, RXL a5⟩
    · rw [a1, bd_s, if_pos (show I 0 = (0 : Int32) from rfl)]
      rfl
    · rw [a2, bd_s, e0, bd_s, if_pos (show I 0 = (0 : Int32) from rfl), e1, bd_s]
      unfold f_X7_readVenueLine_29
      rw [f1, if_neg (show ¬ I f = (0 : Int32) by show ¬ I f = I 0; rw [I_eq (by unfold R; omega) (by unfold R; omega)]; omega), e49]
  · have hV : V < 5 := by omega
    have hB1 := BY_f hB a5 a6
    have hP1 := PRD_f hm hP a5 a6
    obtain ⟨nm, hN⟩ := hP1.2.2.2.1
    have c3 : σ1.1 m 3 = I (V : Int) := hP1.2.2.1.2.1
    have c19 : τ1.1 102 19 = I (V : Int) := hP1.2.2.1.2.2
    have g33 := (TK_33 a3).1
    rw [a1, bd_s, if_neg (show ¬ I 1 = (0 : Int32) by decide), a2, bd_s, c3, vR_eq]
    obtain ⟨n1', n2'⟩ := name_ok hB1 a3
    rw [n1', n2', bd_s, bd_s]
    cases cn : nmb k1 l1 with
    | false =>
      obtain ⟨σ2, τ2, q1, q2, q3, q4, q5⟩ := bad_ok (c := 1) a3 (by omega)
      obtain ⟨f, pf, -, -, hF⟩ := id q3
      have e49 := ft_ven49 hF
      have f1 := hF.1
      have f2 := hF.2.1
      have f3 := hF.2.2.1
      refine Or.inl ⟨σ2, τ2, ?_, ?_, q3, LCt (CGL a5) (CGL q4), LFt (RXL a6) (RXL q5)⟩
      · rw [bn_f, if_pos (show I 0 = (0 : Int32) from rfl), q1, bd_s]
        rfl
      · rw [bn_f, if_pos (show I 0 = (0 : Int32) from rfl), show f_X7_flaw (1 : Int32) τ1 = some (0, τ2) from q2, bd_s]
        unfold f_X7_readVenueLine_29
        rw [f1, if_neg (show ¬ I f = (0 : Int32) by show ¬ I f = I 0; rw [I_eq (by unfold R; omega) (by unfold R; omega)]; omega), e49]
    | true =>
      obtain ⟨t1, t2, t3, t4⟩ := TK_1 a3 (nmb_1 cn)
      rw [bn_t, if_neg (show ¬ I 1 = (0 : Int32) by decide), if_neg (show ¬ I 1 = (0 : Int32) by decide), t3, c3]
      unfold f_X7_readVenueLine_29
      rw [g33, if_pos (show I 0 = (0 : Int32) from rfl)]
      have fd := find_ok hN t1 t2 t4 c19 V 0 FU FU 0 rfl (by omega) (by show _ < 6000; omega) (by show _ < 6000; omega)
      rcases fd with ⟨p1, p2⟩ | ⟨u, hu, p1, p2⟩
      · rw [show f_X5_venueNamed (I (w27 l1)) (I (V : Int)) σ1 = some (I (-1), σ1) from p1, bd_s, if_pos rfl, show f_X7_venueBy τ1 = some (I (-1), τ1) from p2, bd_s, if_pos (show I (-1) = (-1 : Int32) from rfl)]
        rcases ven49_ok hm hB1 a3 (nmb_1 cn) hV W0 hP1 with ⟨σ2, τ2, q1, q2, q3, q4, q5⟩ | ⟨σ2, τ2, pl2, k2, l2, n2, d2, dl2, q1, q2, q3, q4, q5, q6, q7⟩
        · refine Or.inl ⟨σ2, τ2, ?_, q2, q3, LCt (CGL a5) q4, LFt (RXL a6) q5⟩
          rw [q1, bd_s, if_pos (show I 0 = (0 : Int32) from rfl)]
          rfl
        · refine Or.inr ⟨σ2, τ2, pl2, k2, l2, n2, d2, dl2, V + 1, ?_, q2, q3, q4, by omega, LCt (CGL a5) q6, LFt (RXL a6) q7⟩
          rw [q1, bd_s, if_neg (show ¬ I 1 = (0 : Int32) by decide)]
          rfl
      · obtain ⟨σ2, τ2, q1, q2, q3, q4, q5⟩ := bad_ok (c := 3) a3 (by omega)
        obtain ⟨f, pf, -, -, hF⟩ := id q3
        have e49 := ft_ven49 hF
        have ne : ¬ I (u : Int) = I (-1) := by rw [I_eq (by unfold R; omega) (by unfold R; omega)]; omega
        refine Or.inl ⟨σ2, τ2, ?_, ?_, q3, LCt (CGL a5) (CGL q4), LFt (RXL a6) (RXL q5)⟩
        · rw [show f_X5_venueNamed (I (w27 l1)) (I (V : Int)) σ1 = some (I (u : Int), σ1) from p1, bd_s, if_neg ne, q1, bd_s]
          rfl
        · rw [show f_X7_venueBy τ1 = some (I (u : Int), τ1) from p2, bd_s, if_neg (show ¬ I (u : Int) = (-1 : Int32) from ne), show f_X7_flaw (3 : Int32) τ1 = some (0, τ2) from q2, bd_s, e49]
end
section
/-! PURE: the text: a level's line -/
def lR2 (m : Nat) (x2 x3 : Int32) (σ7 : Wd) : Option (Int32 × Wd) := bd (f_X6_slot x2 x3 σ7) fun r8 σ9 => gd (inb r8 30) (nmW (wi σ9 (m + 9) (ix r8) (σ9.1 1 10)) fun σ10 => gd (inb x2 5) (gd (inb x2 5) (nmW (wi σ10 (m + 6) (ix x2) ((σ10.1 (m + 6) (ix x2)) + (1 : Int32))) fun σ11 => gd (isb (1 : Int32)) (some ((1 : Int32), σ11)))))
def lR1 (m : Nat) (x2 x3 : Int32) (σ2 : Wd) : Option (Int32 × Wd) := bd (f_X6_slot x2 x3 σ2) fun r3 σ4 => gd (inb r3 30) (nmW (wi σ4 (m + 8) (ix r3) (σ4.1 1 10)) fun σ5 => bd (f_X5_takesWhole (I 1) (I 99) σ5) fun r6 σ7 => if r6 = 0 then (gd (isb (0 : Int32)) (some ((0 : Int32), σ7))) else lR2 m x2 x3 σ7)
theorem lR_eq {m : Nat} {x2 x3 s0 : Int32} {σ : Wd} : f_X5_readLevel_58 m x2 x3 s0 σ = bd (f_X5_takesWhole (s0 + (1 : Int32)) (I 999) σ) fun r1 σ2 => if r1 = 0 then (gd (isb (0 : Int32)) (some ((0 : Int32), σ2))) else lR1 m x2 x3 σ2 := rfl
theorem slot_ok {σ : Wd} {v k : Nat} (hv : v < 5) (hk : k < 6) : f_X6_slot (I (v : Int)) (I (k : Int)) σ = some (I ((6 * v + k : Nat) : Int), σ) := by
  unfold f_X6_slot
  simp (disch := omega) only [↓reduceIte, gd_t, bd_s, nm_W, nm_I, I_add, I_sub, I_mul, I_neg, I_le_t, I_le_f, I_lt_t, I_lt_f, I_eq_t, I_eq_f, I_inb', I_ix', Int.toNat_natCast, decide_true, decide_false, Bool.not_false, Bool.not_true, if_true, if_false, wi_eq, wi_eq', wi_ne, wi_row, wi_2, N0, N1, N2, N3, N4, N5, N6, N7, N8, N9, N10, N11, N12, N13, N14, N15, N16, N17, N18, N19, N20, N21, N22, N23, N24, N25, N26, N27, N28, N29, N30, N31, N32, N33, N34, N35, N36, N37, N38, N39, N40, N41, N42, N43, N45, N48, N57, N59, N88, N89, N97, N99, N120, N121, N122, N179, N200, N255, N300, N400, N880, N900, N999, N1019, N50000000, N100000000, N1000000000, N2147483647, N2147483648]
  rw [show (v : Int) * 6 + (k : Int) = ((6 * v + k : Nat) : Int) by omega]
theorem ft_lev74 {τ : Wd} {f : Int} {pl : Nat} {x1 x2 s1 : Int32} (h : FT τ f pl) : f_X7_readLevelLine_74 x1 x2 s1 τ = some (0, τ) := by
  have e2 := ft_whole (lo := s1) (hi := I 999) h
  have e3 := ft_whole (lo := I 1) (hi := I 99) h
  obtain ⟨h1, h2, h3, h4, h5⟩ := h
  unfold f_X7_readLevelLine_74
  simp (disch := omega) only [↓reduceIte, gd_t, bd_s, nm_W, nm_I, I_add, I_sub, I_mul, I_neg, I_le_t, I_le_f, I_lt_t, I_lt_f, I_eq_t, I_eq_f, I_inb', I_ix', Int.toNat_natCast, decide_true, decide_false, Bool.not_false, Bool.not_true, if_true, if_false, wi_eq, wi_eq', wi_ne, wi_row, wi_2, N0, N1, N2, N3, N4, N5, N6, N7, N8, N9, N10, N11, N12, N13, N14, N15, N16, N17, N18, N19, N20, N21, N22, N23, N24, N25, N26, N27, N28, N29, N30, N31, N32, N33, N34, N35, N36, N37, N38, N39, N40, N41, N42, N43, N45, N48, N57, N59, N88, N89, N97, N99, N120, N121, N122, N179, N200, N255, N300, N400, N880, N900, N999, N1019, N50000000, N100000000, N1000000000, N2147483647, N2147483648, e2, e3, h1]
theorem ft_lev39 {τ : Wd} {f : Int} {pl : Nat} {x1 x2 : Int32} (h : FT τ f pl) : f_X7_readLevelLine_39 x1 x2 τ = some (0, τ) := by
  have e2 := ft_next h
  have e3 : ∀ s1 : Int32, f_X7_readLevelLine_74 x1 x2 s1 τ = some (0, τ) := fun s1 => ft_lev74 h
  obtain ⟨h1, h2, h3, h4, h5⟩ := h
  unfold f_X7_readLevelLine_39 f_X7_readLevelLine_55
  by_cases c : x2 = 0
  · rw [e2, bd_s, if_pos c, e3]
  · rw [e2, bd_s, if_neg c, h1, if_neg (show ¬ I f ≤ (0 : Int32) by show ¬ I f ≤ I 0; rw [I_le (by unfold R; omega) (by unfold R; omega)]; omega), e3]
def dL (d : MD) (u k : Nat) (x y : Int) : MD := (d.1, (fun j => if j = u then k + 1 else d.lv j), (fun j => if j = 6 * u + k then x else d.pr j), (fun j => if j = 6 * u + k then y else d.sz j))
theorem MDok_dL {d : MD} {V u k : Nat} {x y : Int} (h : MDok d V) (hu : u < V) (hk : k < 6) (ek : d.lv u = k) (hx : 1 ≤ x ∧ x ≤ 999) (hy : 0 ≤ y ∧ y ≤ 99) : MDok (dL d u k x y) V := by
  refine ⟨h.1, fun v hv => ?_⟩
  obtain ⟨a, b, c, e, f, g⟩ := h.2 v hv
  refine ⟨a, b, c, e, ?_, fun i h1 h2 => ?_⟩
  · show (if v = u then k + 1 else d.lv v) ≤ 6
    by_cases q : v = u
    · rw [if_pos q]; omega
    · rw [if_neg q]; exact f
  · have h2 : i < 6 * v + (if v = u then k + 1 else d.lv v) := h2
    show 0 ≤ (if i = 6 * u + k then y else d.sz i) ∧ (if i = 6 * u + k then y else d.sz i) ≤ 99 ∧ 1 ≤ (if i = 6 * u + k then x else d.pr i) ∧ (if i = 6 * u + k then x else d.pr i) ≤ 999
    by_cases q : i = 6 * u + k
    · rw [if_pos q, if_pos q]; omega
    · rw [if_neg q, if_neg q]
      refine g i h1 ?_
      by_cases q2 : v = u
      · rw [if_pos q2] at h2
        subst q2
        have ek : d.lv v = k := ek
        omega
      · rw [if_neg q2] at h2; exact h2
/-- the state of the reference behind a level's line -/
def lF (τ : Wd) (u k : Nat) (x y : Int) : Wd := wi (wi (wi τ 107 (6 * u + k) (I x)) 109 (6 * u + k) (I y)) 106 (5 * u + 4) (I ((k : Int) + 1))
def lC (m : Nat) (σ : Wd) (u k : Nat) (y : Int) : Wd := wi (wi σ (m + 9) (6 * u + k) (I y)) (m + 6) u (I ((k : Int) + 1))
theorem lev_good {m V E N pl' u k : Nat} {bt : Nat → Int} {σ τ σ6 τ6 : Wd} {W p L x y k' n' : Int} {l' : List Int} {d : MD} {dl et : Nat → Int} (hm : 10 < m) (hu : u < V) (hk : k < 6) (ek : d.lv u = k) (hP : PRD m σ τ W p L V E d dl et)
    (c1 : ∀ j, j ≠ 1 → j ≠ m + 8 → σ6.1 j = σ.1 j) (c2 : ∀ i, i ≠ 6 * u + k → σ6.1 (m + 8) i = σ.1 (m + 8) i) (c3 : σ6.1 (m + 8) (6 * u + k) = I x) (hr : RX τ τ6) (hT : TK σ6 τ6 N bt pl' k' l' n') (hx : 1 ≤ x ∧ x ≤ 999) (hy : 0 ≤ y ∧ y ≤ 99) :
    PRD m (lC m σ6 u k y) (lF τ6 u k x y) W p L V E (dL d u k x y) dl et ∧ TK (lC m σ6 u k y) (lF τ6 u k x y) N bt pl' k' l' n' := by
  obtain ⟨⟨p0, p16, pW0, pW1, pW2⟩, pp, ⟨q1, q2, q3⟩, ⟨nm, q4⟩, q5, ⟨q6, q7⟩, q8⟩ := hP
  have V5 := q1.1
  obtain ⟨σF, hσ⟩ : ∃ s, s = lC m σ6 u k y := ⟨_, rfl⟩
  obtain ⟨τF, hτ⟩ : ∃ s, s = lF τ6 u k x y := ⟨_, rfl⟩
  have f1 : ∀ j, j ≠ 1 → j ≠ m + 6 → j ≠ m + 8 → j ≠ m + 9 → σF.1 j = σ.1 j := fun j g1 g2 g3 g4 => by rw [hσ]; unfold lC; rw [wi_row g2, wi_row g4, c1 j g1 g3]
  have f6 : ∀ i, i ≠ u → σF.1 (m + 6) i = σ.1 (m + 6) i := fun i g1 => by rw [hσ]; unfold lC; rw [wi_ne g1, wi_row (by omega), c1 (m + 6) (by omega) (by omega)]
  have f8 : ∀ i, i ≠ 6 * u + k → σF.1 (m + 8) i = σ.1 (m + 8) i := fun i g1 => by rw [hσ]; unfold lC; rw [wi_row (by omega), wi_row (by omega), c2 i g1]
  have f9 : ∀ i, i ≠ 6 * u + k → σF.1 (m + 9) i = σ.1 (m + 9) i := fun i g1 => by rw [hσ]; unfold lC; rw [wi_row (by omega), wi_ne g1, c1 (m + 9) (by omega) (by omega)]
  have r1 : ∀ j, j ≠ 102 → j ≠ 106 → j ≠ 107 → j ≠ 109 → τF.1 j = τ.1 j := fun j g1 g2 g3 g4 => by rw [hτ]; unfold lF; rw [wi_row g2, wi_row g4, wi_row g3, hr.1 j g1]
  have r2 : τF.1 102 = τ6.1 102 := by rw [hτ]; unfold lF; rw [wi_row (by decide), wi_row (by decide), wi_row (by decide)]
  have r6 : ∀ i, i ≠ 5 * u + 4 → τF.1 106 i = τ.1 106 i := fun i g1 => by rw [hτ]; unfold lF; rw [wi_ne g1, wi_row (by decide), wi_row (by decide), hr.1 106 (by decide)]
  have r7 : ∀ i, i ≠ 6 * u + k → τF.1 107 i = τ.1 107 i := fun i g1 => by rw [hτ]; unfold lF; rw [wi_row (by decide), wi_row (by decide), wi_ne g1, hr.1 107 (by decide)]
  have r9 : ∀ i, i ≠ 6 * u + k → τF.1 109 i = τ.1 109 i := fun i g1 => by rw [hτ]; unfold lF; rw [wi_row (by decide), wi_ne g1, wi_row (by decide), hr.1 109 (by decide)]
  have rl : τF.2 = τ6.2 := by rw [hτ]; rfl
  rw [← hσ, ← hτ]
  constructor
  · refine ⟨⟨by rw [f1 m (by omega) (by omega) (by omega) (by omega)]; exact p0, by rw [r2, hr.2.1 16 (by decide)]; exact p16, pW0, pW1, pW2⟩, fun q => ?_, ⟨MDok_dL q1 hu hk ek hx hy, by rw [f1 m (by omega) (by omega) (by omega) (by omega)]; exact q2, by rw [r2, hr.2.1 19 (by decide)]; exact q3⟩, ⟨nm, NMS_f q4 (f1 3 (by omega) (by omega) (by omega) (by omega)) (by rw [rl, hr.2.2.1 111 (by decide)])⟩, fun v hv => ?_, ⟨fun v g1 g2 => by rw [f6 v (by omega)]; exact q6 v g1 g2, fun v g1 => by rw [f1 (m + 7) (by omega) (by omega) (by omega) (by omega)]; exact q7 v g1⟩, ?_⟩
    · rw [f1 m (by omega) (by omega) (by omega) (by omega), r2, hr.2.1 17 (by decide), hr.2.1 18 (by decide)]
      exact pp q
    · obtain ⟨y1, y2, y3, y4, y5, y6, y7⟩ := q5 v hv
      unfold PV
      rw [f1 (m + 1) (by omega) (by omega) (by omega) (by omega), f1 (m + 2) (by omega) (by omega) (by omega) (by omega), f1 (m + 3) (by omega) (by omega) (by omega) (by omega), f1 (m + 4) (by omega) (by omega) (by omega) (by omega), f1 (m + 5) (by omega) (by omega) (by omega) (by omega), r6 (5 * v) (by omega), r6 (5 * v + 1) (by omega), r6 (5 * v + 2) (by omega), r6 (5 * v + 3) (by omega), r1 110 (by decide) (by decide) (by decide) (by decide)]
      refine ⟨y1, y2, y3, y4, y5, ?_, fun j hj => ?_⟩
      · show σF.1 (m + 6) v = I ((if v = u then k + 1 else d.lv v : Nat) : Int) ∧ τF.1 106 (5 * v + 4) = I ((if v = u then k + 1 else d.lv v : Nat) : Int)
        by_cases q : v = u
        · rw [if_pos q, q]
          refine ⟨?_, ?_⟩
          · rw [hσ]; unfold lC; rw [wi_eq]; rfl
          · rw [hτ]; unfold lF; rw [wi_eq]; rfl
        · rw [if_neg q, f6 v q, r6 (5 * v + 4) (by omega)]
          exact y6
      · have hj : j < (if v = u then k + 1 else d.lv v) := hj
        have lv6 := (q1.2 v hv).2.2.2.2.1
        show (σF.1 (m + 8) (6 * v + j) = I (if 6 * v + j = 6 * u + k then x else d.pr (6 * v + j)) ∧ τF.1 107 (6 * v + j) = I (if 6 * v + j = 6 * u + k then x else d.pr (6 * v + j))) ∧ (σF.1 (m + 9) (6 * v + j) = I (if 6 * v + j = 6 * u + k then y else d.sz (6 * v + j)) ∧ τF.1 109 (6 * v + j) = I (if 6 * v + j = 6 * u + k then y else d.sz (6 * v + j)))
        by_cases q : 6 * v + j = 6 * u + k
        · rw [if_pos q, if_pos q, q]
          refine ⟨⟨?_, ?_⟩, ⟨?_, ?_⟩⟩
          · rw [hσ]; unfold lC; rw [wi_row (by omega), wi_row (by omega)]; exact c3
          · rw [hτ]; unfold lF; simp (disch := omega) only [wi_eq, wi_eq', wi_ne, wi_row, wi_2]
          · rw [hσ]; unfold lC; rw [wi_row (by omega), wi_eq]
          · rw [hτ]; unfold lF; simp (disch := omega) only [wi_eq, wi_eq', wi_ne, wi_row, wi_2]
        · rw [if_neg q, if_neg q, f8 _ q, f9 _ q, r7 _ q, r9 _ q]
          refine y7 j ?_
          by_cases q2 : v = u
          · rw [if_pos q2] at hj
            subst q2
            have ek : d.lv v = k := ek
            omega
          · rw [if_neg q2] at hj; exact hj
    · obtain ⟨x1, x2, x3, x4, x5⟩ := q8
      refine ⟨x1, by rw [f1 m (by omega) (by omega) (by omega) (by omega)]; exact x2, by rw [r2, hr.2.1 20 (by decide)]; exact x3, fun i hi => ?_, x5⟩
      obtain ⟨a, j, z, y1, y2, y3⟩ := x4 i hi
      refine ⟨a, j, z, y1, ?_, ?_⟩
      · show j < (if a = u then k + 1 else d.lv a)
        by_cases q : a = u
        · rw [if_pos q]
          rw [q] at y2
          have ek : d.lv u = k := ek
          omega
        · rw [if_neg q]; exact y2
      · rw [f1 (m + 10) (by omega) (by omega) (by omega) (by omega), f1 (m + 11) (by omega) (by omega) (by omega) (by omega), f1 (m + 12) (by omega) (by omega) (by omega) (by omega), r1 108 (by decide) (by decide) (by decide) (by decide)]
        exact y3
  · refine TK_c hT (fun i _ => ?_) (fun i g1 g2 => by rw [r2]) (by rw [rl])
    rw [hσ]; unfold lC; rw [wi_row (by omega), wi_row (by omega)]
/-- a level's line behind its venue's name -/
theorem lev58_ok {m N pl V E u k : Nat} {bt : Nat → Int} {σ τ : Wd} {kk n W p L a : Int} {l : List Int} {d : MD} {dl et : Nat → Int} (hm : 10 < m) (hB : BY σ τ N bt) (hT : TK σ τ N bt pl kk l n) (hu : u < V) (hk : k < 6) (ek : d.lv u = k) (ha : 0 ≤ a ∧ a ≤ 999) (hP : PRD m σ τ W p L V E d dl et) :
    (∃ (σ' τ' : Wd), f_X5_readLevel_58 m (I (u : Int)) (I (k : Int)) (I a) σ = some (I 0, σ') ∧ f_X7_readLevelLine_74 (I (u : Int)) (I (k : Int)) (I (a + 1)) τ = some (0, τ') ∧ BD σ' τ' ∧ LC m σ σ' ∧ LF τ τ')
    ∨ (∃ (σ' τ' : Wd) (pl' : Nat) (k' : Int) (l' : List Int) (n' : Int) (d' : MD), f_X5_readLevel_58 m (I (u : Int)) (I (k : Int)) (I a) σ = some (I 1, σ') ∧ f_X7_readLevelLine_74 (I (u : Int)) (I (k : Int)) (I (a + 1)) τ = some (0, τ') ∧ PRD m σ' τ' W p L V E d' dl et ∧ TK σ' τ' N bt pl' k' l' n' ∧ pl ≤ pl' ∧ LC m σ σ' ∧ LF τ τ') := by
  have V5 := hP.2.2.1.1.1
  obtain ⟨iv, xv⟩ := wI (show u < 5 by omega)
  have ij : inb (I ((6 * u + k : Nat) : Int)) 30 = true := inI (by omega) (by decide)
  have xj : ix (I ((6 * u + k : Nat) : Int)) = 6 * u + k := ixI (by omega)
  rw [lR_eq, show I a + (1 : Int32) = I (a + 1) from I_add _ 1]
  rcases num1_ok (lo := a + 1) (hi := 999) (K0 := fun σ2 => gd (isb (0 : Int32)) (some ((0 : Int32), σ2))) (K1 := lR1 m (I (u : Int)) (I (k : Int))) (fun _ => rfl) hB hT (by omega) (by omega) with ⟨σ1, τ1, a1, a2, a3, a4, a5⟩ | ⟨σ1, τ1, v1, pl1, k1, l1, n1, a1, a2, a3, a3', a4, a5, a6, a7, a8⟩
  · obtain ⟨f, pf, -, -, hF⟩ := id a3
    have e3 := ft_whole (lo := I 1) (hi := I 99) hF
    obtain ⟨f1, f2, f3, f4, f5⟩ := hF
    refine Or.inl ⟨σ1, τ1, a1, ?_, a3, CGL a4, RXL a5⟩
    unfold f_X7_readLevelLine_74
    simp (disch := omega) only [↓reduceIte, gd_t, bd_s, nm_W, nm_I, I_add, I_sub, I_mul, I_neg, I_le_t, I_le_f, I_lt_t, I_lt_f, I_eq_t, I_eq_f, I_inb', I_ix', Int.toNat_natCast, decide_true, decide_false, Bool.not_false, Bool.not_true, if_true, if_false, wi_eq, wi_eq', wi_ne, wi_row, wi_2, N0, N1, N2, N3, N4, N5, N6, N7, N8, N9, N10, N11, N12, N13, N14, N15, N16, N17, N18, N19, N20, N21, N22, N23, N24, N25, N26, N27, N28, N29, N30, N31, N32, N33, N34, N35, N36, N37, N38, N39, N40, N41, N42, N43, N45, N48, N57, N59, N88, N89, N97, N99, N120, N121, N122, N179, N200, N255, N300, N400, N880, N900, N999, N1019, N50000000, N100000000, N1000000000, N2147483647, N2147483648, a2, e3, f1]
  · rw [a1]
    unfold lR1
    rw [slot_ok (by omega) hk, bd_s, ij, gd_t, nm_W, xj, a4]
    have hB1 : BY (wi σ1 (m + 8) (6 * u + k) (I v1)) τ1 N bt := BYw (m := m) (BY_f hB a7 a8) (by omega)
    rcases num1_ok (lo := 1) (hi := 99) (K0 := fun σ2 => gd (isb (0 : Int32)) (some ((0 : Int32), σ2))) (K1 := lR2 m (I (u : Int)) (I (k : Int))) (fun _ => rfl) hB1 (TKw (j := m + 8) (i := 6 * u + k) (x := I v1) a5 (by omega)) (by omega) (by omega) with ⟨σ2, τ2, b1, b2, b3, b4, b5⟩ | ⟨σ2, τ2, v2, pl2, k2, l2, n2, b1, b2, b3, b3', b4, b5, b6, b7, b8⟩
    · obtain ⟨f, pf, -, -, hF⟩ := id b3
      obtain ⟨f1, f2, f3, f4, f5⟩ := hF
      refine Or.inl ⟨σ2, τ2, b1, ?_, b3, LCt (CGL a7) (LCt (LCw (by omega)) (CGL b4)), LFt (RXL a8) (RXL b5)⟩
      unfold f_X7_readLevelLine_74
      simp (disch := omega) only [↓reduceIte, gd_t, bd_s, nm_W, nm_I, I_add, I_sub, I_mul, I_neg, I_le_t, I_le_f, I_lt_t, I_lt_f, I_eq_t, I_eq_f, I_inb', I_ix', Int.toNat_natCast, decide_true, decide_false, Bool.not_false, Bool.not_true, if_true, if_false, wi_eq, wi_eq', wi_ne, wi_row, wi_2, N0, N1, N2, N3, N4, N5, N6, N7, N8, N9, N10, N11, N12, N13, N14, N15, N16, N17, N18, N19, N20, N21, N22, N23, N24, N25, N26, N27, N28, N29, N30, N31, N32, N33, N34, N35, N36, N37, N38, N39, N40, N41, N42, N43, N45, N48, N57, N59, N88, N89, N97, N99, N120, N121, N122, N179, N200, N255, N300, N400, N880, N900, N999, N1019, N50000000, N100000000, N1000000000, N2147483647, N2147483648, a2, b2, f1]
    · rw [b1]
      unfold lR2
      rw [slot_ok (by omega) hk, bd_s, ij, gd_t, nm_W, xj, b4, iv, gd_t, gd_t, nm_W, xv]
      have keyR : RX τ τ2 := RXt a8 b8
      have hlv := (hP.2.2.2.2.1 u hu).2.2.2.2.2.1
      rw [ek] at hlv
      have s6 : (wi σ2 (m + 9) (6 * u + k) (I v2)).1 (m + 6) u = I (k : Int) := by
        rw [wi_row (by omega), b7.1 _ (by omega), wi_row (by omega), a7.1 _ (by omega)]; exact hlv.1
      have r6 : τ2.1 106 (5 * u + 4) = I (k : Int) := by rw [keyR.1 106 (by decide)]; exact hlv.2
      rw [s6, show I (k : Int) + (1 : Int32) = I ((k : Int) + 1) from I_add _ 1]
      obtain ⟨z1, z2⟩ := lev_good (σ := σ) (σ6 := σ2) (x := v1) (y := v2) hm hu hk ek hP (fun j g1 g2 => by rw [b7.1 j g1, wi_row g2, a7.1 j g1]) (fun i g1 => by rw [b7.1 _ (by omega), wi_ne g1, a7.1 _ (by omega)]) (by rw [b7.1 _ (by omega), wi_eq]) keyR b5 ⟨by omega, by omega⟩ ⟨by omega, by omega⟩
      have g33 := (TK_33 b5).1
      refine Or.inr ⟨lC m σ2 u k v2, lF τ2 u k v1 v2, pl2, k2, l2, n2, _, rfl, ?_, z1, z2, by omega, LCt (CGL a7) (LCt (LCw (by omega)) (LCt (CGL b7) (LCt (LCw (by omega)) (LCw (by omega))))), LFt (RXL keyR) (LFt (LFw (by omega)) (LFt (LFw (by omega)) (LFw (by omega))))⟩
      have t1 : ((6 : Int) * (u : Int) + (k : Int)).toNat = 6 * u + k := by omega
      have t2 : ((5 : Int) * (u : Int) + 4).toNat = 5 * u + 4 := by omega
      unfold f_X7_readLevelLine_74 lF
      clear z1 z2 hP hT hB
      simp (disch := omega) only [↓reduceIte, gd_t, bd_s, nm_W, nm_I, I_add, I_sub, I_mul, I_neg, I_le_t, I_le_f, I_lt_t, I_lt_f, I_eq_t, I_eq_f, I_inb', I_ix', Int.toNat_natCast, decide_true, decide_false, Bool.not_false, Bool.not_true, if_true, if_false, wi_eq, wi_eq', wi_ne, wi_row, wi_2, N0, N1, N2, N3, N4, N5, N6, N7, N8, N9, N10, N11, N12, N13, N14, N15, N16, N17, N18, N19, N20, N21, N22, N23, N24, N25, N26, N27, N28, N29, N30, N31, N32, N33, N34, N35, N36, N37, N38, N39, N40, N41, N42, N43, N45, N48, N57, N59, N88, N89, N97, N99, N120, N121, N122, N179, N200, N255, N300, N400, N880, N900, N999, N1019, N50000000, N100000000, N1000000000, N2147483647, N2147483648, a2, b2, g33, t1, t2, r6]
end
section
/-! PURE: the text: a level's line, whole -/
theorem RX33 {τ τ' : Wd} {f : Int} {pl : Nat} (h : FT τ' f pl) : ¬ τ'.1 102 33 = (0 : Int32) := by
  obtain ⟨h1, h2, h3, h4, h5⟩ := h
  rw [h1]
  show ¬ I f = I 0
  rw [I_eq (by unfold R; omega) (by unfold R; omega)]
  omega
theorem ft_lev {τ : Wd} {f : Int} {pl : Nat} (h : FT τ f pl) : (bd (f_X7_knownVenue τ) fun r2 σ3 => gd (inb (((5 : Int32) * r2) + (4 : Int32)) 25) (if (σ3.1 102 33) = 0 then (if (σ3.1 106 (ix (((5 : Int32) * r2) + (4 : Int32)))) = (6 : Int32) then (bd (f_X7_flaw (5 : Int32) σ3) fun _ σ4 => (f_X7_readLevelLine_39 r2 (σ3.1 106 (ix (((5 : Int32) * r2) + (4 : Int32)))) σ4)) else (f_X7_readLevelLine_39 r2 (σ3.1 106 (ix (((5 : Int32) * r2) + (4 : Int32)))) σ3)) else (f_X7_readLevelLine_39 r2 (σ3.1 106 (ix (((5 : Int32) * r2) + (4 : Int32)))) σ3))) = some (0, τ) := by
  have n33 := RX33 (τ := τ) h
  rw [ft_known h, bd_s, show inb (((5 : Int32) * I 0) + (4 : Int32)) 25 = true from by decide, gd_t, if_neg n33]
  exact ft_lev39 h
theorem lev39_ok {m N pl V E u k : Nat} {bt : Nat → Int} {σ τ : Wd} {kk n W p L : Int} {l : List Int} {d : MD} {dl et : Nat → Int} (hm : 10 < m) (hB : BY σ τ N bt) (hT : TK σ τ N bt pl kk l n) (h1 : kk = 1) (hu : u < V) (hk : k < 6) (ek : d.lv u = k) (hP : PRD m σ τ W p L V E d dl et) (cs : Wd → Option (Int32 × Wd))
    (hcs : ∀ σ3, cs σ3 = if I (k : Int) ≤ 0 then (f_X5_readLevel_58 m (I (u : Int)) (I (k : Int)) (0 : Int32) σ3) else (bd (f_X6_slot (I (u : Int)) (I (k : Int) - (1 : Int32)) σ3) fun r4 σ5 => gd (inb r4 30) ((f_X5_readLevel_58 m (I (u : Int)) (I (k : Int)) (σ5.1 (m + 8) (ix r4)) σ5)))) :
    (∃ (σ' τ' : Wd), (bd (f_X5_step σ) fun _ σ3 => cs σ3) = some (I 0, σ') ∧ f_X7_readLevelLine_39 (I (u : Int)) (I (k : Int)) τ = some (0, τ') ∧ BD σ' τ' ∧ LC m σ σ' ∧ LF τ τ')
    ∨ (∃ (σ' τ' : Wd) (pl' : Nat) (k' : Int) (l' : List Int) (n' : Int) (d' : MD), (bd (f_X5_step σ) fun _ σ3 => cs σ3) = some (I 1, σ') ∧ f_X7_readLevelLine_39 (I (u : Int)) (I (k : Int)) τ = some (0, τ') ∧ PRD m σ' τ' W p L V E d' dl et ∧ TK σ' τ' N bt pl' k' l' n' ∧ pl ≤ pl' ∧ LC m σ σ' ∧ LF τ τ') := by
  obtain ⟨σ1, τ1, pl1, k1, l1, n1, a1, a2, a3, a4, a5, a6⟩ := step_ok hB hT (by omega)
  have hB1 := BY_f hB (CFG a5) a6
  have hP1 := PRD_f hm hP (CFG a5) a6
  have V5 := hP.2.2.1.1.1
  have g33 := (TK_33 a3).1
  have key : ∃ a : Int, 0 ≤ a ∧ a ≤ 999 ∧ cs σ1 = f_X5_readLevel_58 m (I (u : Int)) (I (k : Int)) (I a) σ1 ∧ f_X7_readLevelLine_39 (I (u : Int)) (I (k : Int)) τ = f_X7_readLevelLine_74 (I (u : Int)) (I (k : Int)) (I (a + 1)) τ1 := by
    by_cases k0 : k = 0
    · refine ⟨0, by omega, by omega, ?_, ?_⟩
      · rw [hcs, if_pos (show I (k : Int) ≤ (0 : Int32) by rw [k0]; decide)]
        rfl
      · unfold f_X7_readLevelLine_39 f_X7_readLevelLine_55
        rw [a2, bd_s, if_pos (show I (k : Int) = (0 : Int32) by rw [k0]; rfl)]
        rfl
    · obtain ⟨j, rfl⟩ : ∃ j, k = j + 1 := ⟨k - 1, by omega⟩
      have hpr := (hP1.2.2.2.2.1 u hu).2.2.2.2.2.2 j (by rw [ek]; omega)
      have hb := (hP1.2.2.1.1.2 u hu).2.2.2.2.2 (6 * u + j) (by omega) (by rw [ek]; omega)
      have kI : I ((j + 1 : Nat) : Int) - (1 : Int32) = I (j : Int) := by
        show I _ - I 1 = _
        rw [I_sub, show ((j + 1 : Nat) : Int) - 1 = (j : Int) by omega]
      refine ⟨d.pr (6 * u + j), by omega, by omega, ?_, ?_⟩
      · rw [hcs, if_neg (show ¬ I ((j + 1 : Nat) : Int) ≤ (0 : Int32) by show ¬ I _ ≤ I 0; rw [I_le (by unfold R; omega) (by unfold R; omega)]; omega), kI, slot_ok (by omega) (by omega), bd_s, show inb (I ((6 * u + j : Nat) : Int)) 30 = true from inI (by omega) (by decide), gd_t, show ix (I ((6 * u + j : Nat) : Int)) = 6 * u + j from ixI (by omega), hpr.1.1]
      · have t1 : ((6 : Int) * (u : Int) + ((j + 1 : Nat) : Int) - 1).toNat = 6 * u + j := by omega
        have e7 := hpr.1.2
        unfold f_X7_readLevelLine_39
        clear hP hP1 hB hB1 hT hcs
        simp (disch := omega) only [↓reduceIte, gd_t, bd_s, nm_W, nm_I, I_add, I_sub, I_mul, I_neg, I_le_t, I_le_f, I_lt_t, I_lt_f, I_eq_t, I_eq_f, I_inb', I_ix', Int.toNat_natCast, decide_true, decide_false, Bool.not_false, Bool.not_true, if_true, if_false, wi_eq, wi_eq', wi_ne, wi_row, wi_2, N0, N1, N2, N3, N4, N5, N6, N7, N8, N9, N10, N11, N12, N13, N14, N15, N16, N17, N18, N19, N20, N21, N22, N23, N24, N25, N26, N27, N28, N29, N30, N31, N32, N33, N34, N35, N36, N37, N38, N39, N40, N41, N42, N43, N45, N48, N57, N59, N88, N89, N97, N99, N120, N121, N122, N179, N200, N255, N300, N400, N880, N900, N999, N1019, N50000000, N100000000, N1000000000, N2147483647, N2147483648, a2, g33, t1, e7]
  obtain ⟨a, h1, h2, e1, e2⟩ := key
  rw [a1, bd_s, e1, e2]
  rcases lev58_ok hm hB1 a3 hu hk ek ⟨h1, h2⟩ hP1 with ⟨σ2, τ2, q1, q2, q3, q4, q5⟩ | ⟨σ2, τ2, pl2, k2, l2, n2, d2, q1, q2, q3, q4, q5, q6, q7⟩
  · exact Or.inl ⟨σ2, τ2, q1, q2, q3, LCt (CGL (CFG a5)) q4, LFt (RXL a6) q5⟩
  · exact Or.inr ⟨σ2, τ2, pl2, k2, l2, n2, d2, q1, q2, q3, q4, by omega, LCt (CGL (CFG a5)) q6, LFt (RXL a6) q7⟩
theorem level_ok {m N pl V E : Nat} {bt : Nat → Int} {σ τ : Wd} {k n W p L : Int} {l : List Int} {d : MD} {dl et : Nat → Int} (hm : 10 < m) (hB : BY σ τ N bt) (hT : TK σ τ N bt pl k l n) (hk : k = 1) (hP : PRD m σ τ W p L V E d dl et) :
    (∃ (σ' τ' : Wd), (bd (f_X5_opens m (1 : Int32) σ) fun r11 σ12 => if r11 = 0 then (f_X5_readLine_93 m σ12) else (bd (f_X5_readLevel m σ12) fun r13 σ14 => if r13 = 0 then (f_X5_readLine_93 m σ14) else (f_X5_readLine_94 m (1 : Int32) σ14))) = some (I 0, σ') ∧ f_X7_readLevelLine τ = some (0, τ') ∧ BD σ' τ' ∧ LC m σ σ' ∧ LF τ τ')
    ∨ (∃ (σ' τ' : Wd) (pl' : Nat) (k' : Int) (l' : List Int) (n' : Int) (d' : MD), (bd (f_X5_opens m (1 : Int32) σ) fun r11 σ12 => if r11 = 0 then (f_X5_readLine_93 m σ12) else (bd (f_X5_readLevel m σ12) fun r13 σ14 => if r13 = 0 then (f_X5_readLine_93 m σ14) else (f_X5_readLine_94 m (1 : Int32) σ14))) = some (I 1, σ') ∧ f_X7_readLevelLine τ = some (0, τ') ∧ PRD m σ' τ' W p L V E d' dl et ∧ TK σ' τ' N bt pl' k' l' n' ∧ pl ≤ pl' ∧ LC m σ σ' ∧ LF τ τ') := by
  have V5 := hP.2.2.1.1.1
  unfold f_X7_readLevelLine
  rcases opens_ok (x := 0) hm (Or.inl rfl) hB hT hk hP.1.1 hP.1.2.1 ⟨hP.1.2.2.1, hP.1.2.2.2.1⟩ with ⟨σ1, τ1, a1, a2, a3, a4, a5⟩ | ⟨σ1, τ1, pl1, k1, l1, n1, x0, W0, a1, a2, a3, a4, a5, a6⟩
  · obtain ⟨f, pf, -, -, hF⟩ := id a3
    refine Or.inl ⟨σ1, τ1, ?_, ?_, a3, CGL a4, RXL a5⟩
    · rw [show f_X5_opens m (1 : Int32) σ = some (I 0, σ1) from a1, bd_s, if_pos (show I 0 = (0 : Int32) from rfl)]
      rfl
    · rw [show f_X7_begins (0 : Int32) τ = some (0, τ1) from a2, bd_s]
      exact ft_lev hF
  · have hB1 := BY_f hB a5 a6
    have hP1 := PRD_f hm hP a5 a6
    obtain ⟨nm, hN⟩ := hP1.2.2.2.1
    have c3 : σ1.1 m 3 = I (V : Int) := hP1.2.2.1.2.1
    have c19 : τ1.1 102 19 = I (V : Int) := hP1.2.2.1.2.2
    have g33 := (TK_33 a3).1
    rw [show f_X5_opens m (1 : Int32) σ = some (I 1, σ1) from a1, bd_s, if_neg (show ¬ I 1 = (0 : Int32) by decide), show f_X7_begins (0 : Int32) τ = some (0, τ1) from a2, bd_s]
    unfold f_X5_readLevel
    rcases found_ok hm hB1 a3 hN c3 c19 with ⟨σ2, τ2, b1, b2, b3, b4, b5⟩ | ⟨u, hu, k1', b1, b2, b3⟩
    · obtain ⟨f, pf, -, -, hF⟩ := id b3
      have n33 := RX33 (τ := τ) hF
      refine Or.inl ⟨σ2, τ2, ?_, ?_, b3, LCt (CGL a5) (CGL b4), LFt (RXL a6) (RXL b5)⟩
      · rw [b1, bd_s, if_pos (show I 0 = (0 : Int32) from rfl)]
        rfl
      · rw [b2, bd_s, show inb (((5 : Int32) * I 0) + (4 : Int32)) 25 = true from by decide, gd_t, if_neg n33]
        exact ft_lev39 hF
    · obtain ⟨σ2, hσ2⟩ : ∃ s, s = wi σ1 1 10 (I (u : Int)) := ⟨_, rfl⟩
      have g2 : CG σ1 σ2 := by rw [hσ2]; exact CGw
      have t10 : σ2.1 1 10 = I (u : Int) := by rw [hσ2, wi_eq]
      rw [← hσ2] at b1 b3
      have hB2 := BY_f hB1 g2 RXr
      have hP2 := PRD_f hm hP1 g2 RXr
      obtain ⟨iv, xv⟩ := wI (show u < 5 by omega)
      have hlv := (hP2.2.2.2.2.1 u hu).2.2.2.2.2.1
      have l6 := (hP2.2.2.1.1.2 u hu).2.2.2.2.1
      obtain ⟨kk, hkk⟩ : ∃ kk, kk = d.lv u := ⟨_, rfl⟩
      rw [← hkk] at hlv l6
      have t5 : ((5 : Int32) * I (u : Int)) + (4 : Int32) = I ((5 * u + 4 : Nat) : Int) := by
        show I 5 * I (u : Int) + I 4 = _
        rw [I_mul, I_add, show (5 : Int) * (u : Int) + 4 = ((5 * u + 4 : Nat) : Int) by omega]
      have i5 : inb (I ((5 * u + 4 : Nat) : Int)) 25 = true := inI (by omega) (by decide)
      have x5 : ix (I ((5 * u + 4 : Nat) : Int)) = 5 * u + 4 := ixI (by omega)
      rw [b1, bd_s, if_neg (show ¬ I 1 = (0 : Int32) by decide), b2, bd_s, t10, iv, gd_t, xv, hlv.1, t5, i5, gd_t, x5, hlv.2, g33, if_pos (show I 0 = (0 : Int32) from rfl)]
      by_cases c6 : kk = 6
      · obtain ⟨σ3, τ3, q1, q2, q3, q4, q5⟩ := bad_ok (c := 5) b3 (by omega)
        obtain ⟨f, pf, -, -, hF⟩ := id q3
        refine Or.inl ⟨σ3, τ3, ?_, ?_, q3, LCt (CGL a5) (LCt (CGL g2) (CGL q4)), LFt (RXL a6) (RXL q5)⟩
        · rw [if_neg (show ¬ I (kk : Int) < (6 : Int32) by rw [c6]; decide), show f_X5_fails (5 : Int32) σ2 = some (I 0, σ3) from q1, bd_s]
          rfl
        · rw [if_pos (show I (kk : Int) = (6 : Int32) by rw [c6]; rfl), show f_X7_flaw (5 : Int32) τ1 = some (0, τ3) from q2, bd_s]
          exact ft_lev39 hF
      · rw [if_pos (show I (kk : Int) < (6 : Int32) by show I _ < I 6; rw [I_lt (by unfold R; omega) (by unfold R; omega)]; omega), if_neg (show ¬ I (kk : Int) = (6 : Int32) by show ¬ I _ = I 6; rw [I_eq (by unfold R; omega) (by unfold R; omega)]; omega)]
        rcases lev39_ok hm hB2 b3 k1' hu (show kk < 6 by omega) hkk.symm hP2 _ (fun _ => rfl) with ⟨σ3, τ3, q1, q2, q3, q4, q5⟩ | ⟨σ3, τ3, pl3, k3, l3, n3, d3, q1, q2, q3, q4, q5, q6, q7⟩
        · refine Or.inl ⟨σ3, τ3, ?_, q2, q3, LCt (CGL a5) (LCt (CGL g2) q4), LFt (RXL a6) q5⟩
          rw [q1, bd_s, if_pos (show I 0 = (0 : Int32) from rfl)]
          rfl
        · refine Or.inr ⟨σ3, τ3, pl3, k3, l3, n3, d3, ?_, q2, q3, q4, by omega, LCt (CGL a5) (LCt (CGL g2) q6), LFt (RXL a6) q7⟩
          rw [q1, bd_s, if_neg (show ¬ I 1 = (0 : Int32) by decide)]
          rfl
end
section
/-! PURE: the text: an event's line -/
def eR3 (m : Nat) (x2 : Int32) (σ13 : Wd) : Option (Int32 × Wd) := gd (inb x2 10) (nmW (wi σ13 (m + 12) (ix x2) (σ13.1 1 10)) fun σ14 => nmW (wi σ14 m 4 ((σ14.1 m 4) + (1 : Int32))) fun σ15 => gd (isb (1 : Int32)) (some ((1 : Int32), σ15)))
def eR2 (m : Nat) (x2 a : Int32) (σ8 : Wd) : Option (Int32 × Wd) := bd (f_X6_slot a (σ8.1 1 10) σ8) fun r9 σ10 => gd (inb x2 10) (nmW (wi σ10 (m + 11) (ix x2) r9) fun σ11 => bd (f_X5_takesWhole (I 0) (I 99) σ11) fun r12 σ13 => if r12 = 0 then (gd (isb (0 : Int32)) (some ((0 : Int32), σ13))) else eR3 m x2 σ13)
def eR1 (m : Nat) (x2 : Int32) (σ2 : Wd) : Option (Int32 × Wd) := gd (inb x2 10) (nmW (wi σ2 (m + 10) (ix x2) (σ2.1 1 10)) fun σ3 => bd (f_X5_findsVenue m σ3) fun r4 σ5 => if r4 = 0 then (gd (isb (0 : Int32)) (some ((0 : Int32), σ5))) else (bd (f_X5_step σ5) fun _ σ6 => gd (inb (σ5.1 1 10) 5) (bd (f_X5_takesWhole (I 0) ((σ6.1 (m + 6) (ix (σ5.1 1 10))) - (1 : Int32)) σ6) fun r7 σ8 => if r7 = 0 then (gd (isb (0 : Int32)) (some ((0 : Int32), σ8))) else eR2 m x2 (σ5.1 1 10) σ8)))
theorem eR_eq {m : Nat} {x2 s0 : Int32} {σ : Wd} : f_X5_readEvent_16 m x2 s0 σ = bd (f_X5_takesWhole s0 (I 200) σ) fun r1 σ2 => if r1 = 0 then (gd (isb (0 : Int32)) (some ((0 : Int32), σ2))) else eR1 m x2 σ2 := rfl
theorem ft_ev43 {τ : Wd} {f : Int} {pl : Nat} {s1 : Int32} (h : FT τ f pl) : f_X7_readEventLine_43 s1 τ = some (0, τ) := by
  have e1 := ft_whole (lo := s1) (hi := I 200) h
  have e2 := ft_known h
  have e3 := ft_next h
  have e4 : ∀ y : Int32, f_X7_readWhole (I 0) y τ = some (I 0, τ) := fun y => ft_whole h
  obtain ⟨h1, h2, h3, h4, h5⟩ := h
  unfold f_X7_readEventLine_43
  simp (disch := omega) only [↓reduceIte, gd_t, bd_s, nm_W, nm_I, I_add, I_sub, I_mul, I_neg, I_le_t, I_le_f, I_lt_t, I_lt_f, I_eq_t, I_eq_f, I_inb', I_ix', Int.toNat_natCast, decide_true, decide_false, Bool.not_false, Bool.not_true, if_true, if_false, wi_eq, wi_eq', wi_ne, wi_row, wi_2, N0, N1, N2, N3, N4, N5, N6, N7, N8, N9, N10, N11, N12, N13, N14, N15, N16, N17, N18, N19, N20, N21, N22, N23, N24, N25, N26, N27, N28, N29, N30, N31, N32, N33, N34, N35, N36, N37, N38, N39, N40, N41, N42, N43, N45, N48, N57, N59, N88, N89, N97, N99, N120, N121, N122, N179, N200, N255, N300, N400, N880, N900, N999, N1019, N50000000, N100000000, N1000000000, N2147483647, N2147483648, e1, e2, e3, e4, h1]
/-- the states behind an event's line -/
def eC (m : Nat) (σ : Wd) (E : Nat) (z : Int) : Wd := wi (wi σ (m + 12) E (I z)) m 4 (I ((E : Int) + 1))
def eF (τ : Wd) (E a k : Nat) (t z : Int) : Wd := wi (wi (wi (wi (wi τ 108 (4 * E) (I t)) 108 (4 * E + 1) (I (a : Int))) 108 (4 * E + 2) (I (k : Int))) 108 (4 * E + 3) (I z)) 102 20 (I ((E : Int) + 1))
theorem ev_good {m V E N pl' a k : Nat} {bt : Nat → Int} {σ τ σ6 τ6 : Wd} {W p L t z k' n' : Int} {l' : List Int} {d : MD} {dl et : Nat → Int} (hm : 10 < m) (hE : E < 10) (hW : W ≠ 0) (ha : a < V) (hk : k < d.lv a) (hP : PRD m σ τ W p L V E d dl et)
    (c1 : ∀ j, j ≠ 1 → j ≠ m + 10 → j ≠ m + 11 → σ6.1 j = σ.1 j) (c2 : ∀ i, i ≠ E → σ6.1 (m + 10) i = σ.1 (m + 10) i) (c3 : ∀ i, i ≠ E → σ6.1 (m + 11) i = σ.1 (m + 11) i) (c4 : σ6.1 (m + 10) E = I t) (c5 : σ6.1 (m + 11) E = I ((6 * a + k : Nat) : Int)) (hr : RX τ τ6) (hT : TK σ6 τ6 N bt pl' k' l' n') (ht : 1 ≤ t ∧ t ≤ 200) (ht2 : ∀ i, i + 1 = E → et i ≤ t) (hz : 0 ≤ z ∧ z ≤ 99) :
    PRD m (eC m σ6 E z) (eF τ6 E a k t z) W p L V (E + 1) d dl (fun j => if j = E then t else et j) ∧ TK (eC m σ6 E z) (eF τ6 E a k t z) N bt pl' k' l' n' := by
  obtain ⟨⟨p0, p16, pW0, pW1, pW2⟩, pp, ⟨q1, q2, q3⟩, ⟨nm, q4⟩, q5, ⟨q6, q7⟩, q8⟩ := hP
  obtain ⟨σF, hσ⟩ : ∃ s, s = eC m σ6 E z := ⟨_, rfl⟩
  obtain ⟨τF, hτ⟩ : ∃ s, s = eF τ6 E a k t z := ⟨_, rfl⟩
  have f1 : ∀ j, j ≠ 1 → j ≠ m → j < m + 10 ∨ m + 12 < j → σF.1 j = σ.1 j := fun j g1 g2 g3 => by rw [hσ]; unfold eC; rw [wi_row g2, wi_row (by omega), c1 j g1 (by omega) (by omega)]
  have fm : ∀ i, i ≠ 4 → σF.1 m i = σ.1 m i := fun i g1 => by rw [hσ]; unfold eC; rw [wi_ne g1, wi_row (by omega), c1 m (by omega) (by omega) (by omega)]
  have f10 : ∀ i, i ≠ E → σF.1 (m + 10) i = σ.1 (m + 10) i := fun i g1 => by rw [hσ]; unfold eC; rw [wi_row (by omega), wi_row (by omega), c2 i g1]
  have f11 : ∀ i, i ≠ E → σF.1 (m + 11) i = σ.1 (m + 11) i := fun i g1 => by rw [hσ]; unfold eC; rw [wi_row (by omega), wi_row (by omega), c3 i g1]
  have f12 : ∀ i, i ≠ E → σF.1 (m + 12) i = σ.1 (m + 12) i := fun i g1 => by rw [hσ]; unfold eC; rw [wi_row (by omega), wi_ne g1, c1 (m + 12) (by omega) (by omega) (by omega)]
  have r1 : ∀ j, j ≠ 102 → j ≠ 108 → τF.1 j = τ.1 j := fun j g1 g2 => by rw [hτ]; unfold eF; rw [wi_row g1, wi_row g2, wi_row g2, wi_row g2, wi_row g2, hr.1 j g1]
  have r2 : ∀ i, i ≠ 20 → τF.1 102 i = τ6.1 102 i := fun i g1 => by rw [hτ]; unfold eF; rw [wi_ne g1, wi_row (by decide), wi_row (by decide), wi_row (by decide), wi_row (by decide)]
  have r8 : ∀ i, i < 4 * E → τF.1 108 i = τ.1 108 i := fun i g1 => by rw [hτ]; unfold eF; rw [wi_row (by decide), wi_ne (by omega), wi_ne (by omega), wi_ne (by omega), wi_ne (by omega), hr.1 108 (by decide)]
  have rl : τF.2 = τ6.2 := by rw [hτ]; rfl
  rw [← hσ, ← hτ]
  constructor
  · refine ⟨⟨by rw [fm 0 (by decide)]; exact p0, by rw [r2 16 (by decide), hr.2.1 16 (by decide)]; exact p16, pW0, pW1, fun q => absurd q hW⟩, fun q => ?_, ⟨q1, by rw [fm 3 (by decide)]; exact q2, by rw [r2 19 (by decide), hr.2.1 19 (by decide)]; exact q3⟩, ⟨nm, NMS_f q4 (f1 3 (by omega) (by omega) (by omega)) (by rw [rl, hr.2.2.1 111 (by decide)])⟩, fun v hv => PV_f (q5 v hv) (fun j g1 g2 => f1 j (by omega) (by omega) (by omega)) (fun j g1 g2 g3 => r1 j (by omega) g3), ⟨fun v g1 g2 => by rw [f1 (m + 6) (by omega) (by omega) (by omega)]; exact q6 v g1 g2, fun v g1 => by rw [f1 (m + 7) (by omega) (by omega) (by omega)]; exact q7 v g1⟩, ?_⟩
    · rw [fm 1 (by decide), fm 2 (by decide), r2 17 (by decide), r2 18 (by decide), hr.2.1 17 (by decide), hr.2.1 18 (by decide)]
      exact pp q
    · obtain ⟨x1, x2, x3, x4, x5⟩ := q8
      refine ⟨by omega, by rw [hσ]; unfold eC; rw [wi_eq]; rfl, by rw [hτ]; unfold eF; rw [wi_eq]; rfl, fun i hi => ?_, fun i hi => ?_⟩
      · show ∃ (a k : Nat) (z : Int), a < V ∧ k < d.lv a ∧ 0 ≤ z ∧ z ≤ 99 ∧ 1 ≤ (if i = E then t else et i) ∧ (if i = E then t else et i) ≤ 200 ∧ σF.1 (m + 10) i = I (if i = E then t else et i) ∧ τF.1 108 (4 * i) = I (if i = E then t else et i) ∧ σF.1 (m + 11) i = I ((6 * a + k : Nat) : Int) ∧ τF.1 108 (4 * i + 1) = I (a : Int) ∧ τF.1 108 (4 * i + 2) = I (k : Int) ∧ σF.1 (m + 12) i = I z ∧ τF.1 108 (4 * i + 3) = I z
        by_cases q : i = E
        · subst q
          rw [if_pos rfl]
          refine ⟨a, k, z, ha, hk, hz.1, hz.2, ht.1, ht.2, ?_, ?_, ?_, ?_, ?_, ?_, ?_⟩
          · rw [hσ]; unfold eC; rw [wi_row (by omega), wi_row (by omega)]; exact c4
          · rw [hτ]; unfold eF; simp (disch := omega) only [wi_eq, wi_eq', wi_ne, wi_row, wi_2]
          · rw [hσ]; unfold eC; rw [wi_row (by omega), wi_row (by omega)]; exact c5
          · rw [hτ]; unfold eF; simp (disch := omega) only [wi_eq, wi_eq', wi_ne, wi_row, wi_2]
          · rw [hτ]; unfold eF; simp (disch := omega) only [wi_eq, wi_eq', wi_ne, wi_row, wi_2]
          · rw [hσ]; unfold eC; rw [wi_row (by omega), wi_eq]
          · rw [hτ]; unfold eF; simp (disch := omega) only [wi_eq, wi_eq', wi_ne, wi_row, wi_2]
        · rw [if_neg q, f10 i q, f11 i q, f12 i q, r8 (4 * i) (by omega), r8 (4 * i + 1) (by omega), r8 (4 * i + 2) (by omega), r8 (4 * i + 3) (by omega)]
          exact x4 i (by omega)
      · show (if i = E then t else et i) ≤ (if i + 1 = E then t else et (i + 1))
        rw [if_neg (by omega)]
        by_cases q : i + 1 = E
        · rw [if_pos q]; exact ht2 i q
        · rw [if_neg q]; exact x5 i (by omega)
  · refine TK_c hT (fun i _ => ?_) (fun i g1 g2 => r2 i (by omega)) (by rw [rl])
    rw [hσ]; unfold eC; rw [wi_row (by omega), wi_row (by omega)]
set_option maxHeartbeats 2000000 in
/-- an event's line behind its first word; lo: what its time is at least -/
theorem ev16_ok {m N pl V E : Nat} {bt : Nat → Int} {σ τ : Wd} {kk n W p L lo : Int} {l : List Int} {d : MD} {dl et : Nat → Int} (hm : 10 < m) (hB : BY σ τ N bt) (hT : TK σ τ N bt pl kk l n) (hE : E < 10) (hW : W ≠ 0) (hlo : 1 ≤ lo ∧ lo ≤ 200) (hlo2 : ∀ i, i + 1 = E → et i ≤ lo) (hP : PRD m σ τ W p L V E d dl et) :
    (∃ (σ' τ' : Wd), f_X5_readEvent_16 m (I (E : Int)) (I lo) σ = some (I 0, σ') ∧ f_X7_readEventLine_43 (I lo) τ = some (0, τ') ∧ BD σ' τ' ∧ LC m σ σ' ∧ LF τ τ')
    ∨ (∃ (σ' τ' : Wd) (pl' : Nat) (k' : Int) (l' : List Int) (n' : Int) (et' : Nat → Int), f_X5_readEvent_16 m (I (E : Int)) (I lo) σ = some (I 1, σ') ∧ f_X7_readEventLine_43 (I lo) τ = some (0, τ') ∧ PRD m σ' τ' W p L V (E + 1) d dl et' ∧ TK σ' τ' N bt pl' k' l' n' ∧ pl ≤ pl' ∧ LC m σ σ' ∧ LF τ τ') := by
  have V5 := hP.2.2.1.1.1
  have iv : inb (I (E : Int)) 10 = true := inI (by omega) (by decide)
  have xv : ix (I (E : Int)) = E := ixI (by omega)
  rw [eR_eq]
  rcases num1_ok (lo := lo) (hi := 200) (K0 := fun σ2 => gd (isb (0 : Int32)) (some ((0 : Int32), σ2))) (K1 := eR1 m (I (E : Int))) (fun _ => rfl) hB hT (by omega) (by omega) with ⟨σ1, τ1, a1, a2, a3, a4, a5⟩ | ⟨σ1, τ1, v1, pl1, k1, l1, n1, a1, a2, a3, a3', a4, a5, a6, a7, a8⟩
  · obtain ⟨f, pf, -, -, hF⟩ := id a3
    have e2 := ft_known hF
    have e3 := ft_next hF
    have e4 : ∀ y : Int32, f_X7_readWhole (I 0) y τ1 = some (I 0, τ1) := fun y => ft_whole hF
    obtain ⟨f1, f2, f3, f4, f5⟩ := hF
    refine Or.inl ⟨σ1, τ1, a1, ?_, a3, CGL a4, RXL a5⟩
    unfold f_X7_readEventLine_43
    simp (disch := omega) only [↓reduceIte, gd_t, bd_s, nm_W, nm_I, I_add, I_sub, I_mul, I_neg, I_le_t, I_le_f, I_lt_t, I_lt_f, I_eq_t, I_eq_f, I_inb', I_ix', Int.toNat_natCast, decide_true, decide_false, Bool.not_false, Bool.not_true, if_true, if_false, wi_eq, wi_eq', wi_ne, wi_row, wi_2, N0, N1, N2, N3, N4, N5, N6, N7, N8, N9, N10, N11, N12, N13, N14, N15, N16, N17, N18, N19, N20, N21, N22, N23, N24, N25, N26, N27, N28, N29, N30, N31, N32, N33, N34, N35, N36, N37, N38, N39, N40, N41, N42, N43, N45, N48, N57, N59, N88, N89, N97, N99, N120, N121, N122, N179, N200, N255, N300, N400, N880, N900, N999, N1019, N50000000, N100000000, N1000000000, N2147483647, N2147483648, a2, e2, e3, e4, f1]
  · rw [a1]
    unfold eR1
    rw [iv, gd_t, nm_W, xv, a4]
    obtain ⟨σ2, hσ2⟩ : ∃ s, s = wi σ1 (m + 10) E (I v1) := ⟨_, rfl⟩
    have g2 : ∀ j, j ≠ m + 10 → σ2.1 j = σ1.1 j := fun j h => by rw [hσ2, wi_row h]
    have hB2 : BY σ2 τ1 N bt := by rw [hσ2]; exact BYw (m := m) (BY_f hB a7 a8) (by omega)
    have hT2 : TK σ2 τ1 N bt pl1 k1 l1 n1 := by rw [hσ2]; exact TKw a5 (by omega)
    have l2 : LC m σ1 σ2 := by rw [hσ2]; exact LCw (by omega)
    have hP1 := PRD_f hm hP a7 a8
    obtain ⟨nm, hN⟩ := hP1.2.2.2.1
    have c3 : σ2.1 m 3 = I (V : Int) := by rw [g2 m (by omega)]; exact hP1.2.2.1.2.1
    have c19 : τ1.1 102 19 = I (V : Int) := hP1.2.2.1.2.2
    rw [← hσ2]
    rcases found_ok hm hB2 hT2 (NMS_f hN (g2 3 (by omega)) rfl) c3 c19 with ⟨σ3, τ3, b1, b2, b3, b4, b5⟩ | ⟨u, hu, k1', b1, b2, b3⟩
    · obtain ⟨f, pf, -, -, hF⟩ := id b3
      have e3 := ft_next hF
      have e4 : ∀ y : Int32, f_X7_readWhole (I 0) y τ3 = some (I 0, τ3) := fun y => ft_whole hF
      obtain ⟨f1, f2, f3, f4, f5⟩ := hF
      refine Or.inl ⟨σ3, τ3, ?_, ?_, b3, LCt (CGL a7) (LCt l2 (CGL b4)), LFt (RXL a8) (RXL b5)⟩
      · rw [b1, bd_s, if_pos (show I 0 = (0 : Int32) from rfl)]
        rfl
      · unfold f_X7_readEventLine_43
        simp (disch := omega) only [↓reduceIte, gd_t, bd_s, nm_W, nm_I, I_add, I_sub, I_mul, I_neg, I_le_t, I_le_f, I_lt_t, I_lt_f, I_eq_t, I_eq_f, I_inb', I_ix', Int.toNat_natCast, decide_true, decide_false, Bool.not_false, Bool.not_true, if_true, if_false, wi_eq, wi_eq', wi_ne, wi_row, wi_2, N0, N1, N2, N3, N4, N5, N6, N7, N8, N9, N10, N11, N12, N13, N14, N15, N16, N17, N18, N19, N20, N21, N22, N23, N24, N25, N26, N27, N28, N29, N30, N31, N32, N33, N34, N35, N36, N37, N38, N39, N40, N41, N42, N43, N45, N48, N57, N59, N88, N89, N97, N99, N120, N121, N122, N179, N200, N255, N300, N400, N880, N900, N999, N1019, N50000000, N100000000, N1000000000, N2147483647, N2147483648, a2, b2, e3, e4, f1]
    · obtain ⟨σ3, hσ3⟩ : ∃ s, s = wi σ2 1 10 (I (u : Int)) := ⟨_, rfl⟩
      have g3 : CG σ2 σ3 := by rw [hσ3]; exact CGw
      have t10 : σ3.1 1 10 = I (u : Int) := by rw [hσ3, wi_eq]
      rw [← hσ3] at b1 b3
      have hB3 := BY_f hB2 g3 RXr
      obtain ⟨iu, xu⟩ := wI (show u < 5 by omega)
      obtain ⟨σ4, τ4, pl4, k4, l4, n4, d1, d2, d3, d4, d5, d6⟩ := step_ok hB3 b3 (by omega)
      have hB4 := BY_f hB3 (CFG d5) d6
      have hlv := (hP.2.2.2.2.1 u hu).2.2.2.2.2.1
      have l6 := (hP.2.2.1.1.2 u hu).2.2.2.2.1
      have s6 : σ4.1 (m + 6) u = I (d.lv u : Int) := by rw [d5.1 _ (by omega), g3.1 _ (by omega), g2 _ (by omega), a7.1 _ (by omega)]; exact hlv.1
      have r6 : τ4.1 106 (5 * u + 4) = I (d.lv u : Int) := by rw [d6.1 106 (by decide), a8.1 106 (by decide)]; exact hlv.2
      have t5 : ((5 : Int) * (u : Int) + 4).toNat = 5 * u + 4 := by omega
      rw [b1, bd_s, if_neg (show ¬ I 1 = (0 : Int32) by decide), d1, bd_s, t10, iu, gd_t, xu, s6, show I (d.lv u : Int) - (1 : Int32) = I ((d.lv u : Int) - 1) from I_sub _ 1]
      obtain ⟨q, hq⟩ : ∃ q : Nat, q = d.lv u := ⟨_, rfl⟩
      have l6 : d.lv u ≤ 6 := l6
      rw [← hq] at l6 s6 r6 ⊢
      rcases num1_ok (lo := 0) (hi := (q : Int) - 1) (K0 := fun σ2 => gd (isb (0 : Int32)) (some ((0 : Int32), σ2))) (K1 := eR2 m (I (E : Int)) (I (u : Int))) (fun _ => rfl) hB4 d3 (by omega) (by omega) with ⟨σ5, τ5, i1, i2, i3, i4, i5⟩ | ⟨σ5, τ5, v5, pl5, k5, l5, n5, i1, i2, i3, i3', i4, i5, i6, i7, i8⟩
      · obtain ⟨f, pf, -, -, hF⟩ := id i3
        have e4 := ft_whole (lo := I 0) (hi := I 99) hF
        obtain ⟨f1, f2, f3, f4, f5⟩ := hF
        refine Or.inl ⟨σ5, τ5, i1, ?_, i3, LCt (CGL a7) (LCt l2 (LCt (CGL g3) (LCt (CGL (CFG d5)) (CGL i4)))), LFt (RXL a8) (LFt (RXL d6) (RXL i5))⟩
        unfold f_X7_readEventLine_43
        clear hP hP1 hB hB2 hB3 hB4 hT hT2
        simp (disch := omega) only [↓reduceIte, gd_t, bd_s, nm_W, nm_I, I_add, I_sub, I_mul, I_neg, I_le_t, I_le_f, I_lt_t, I_lt_f, I_eq_t, I_eq_f, I_inb', I_ix', Int.toNat_natCast, decide_true, decide_false, Bool.not_false, Bool.not_true, if_true, if_false, wi_eq, wi_eq', wi_ne, wi_row, wi_2, N0, N1, N2, N3, N4, N5, N6, N7, N8, N9, N10, N11, N12, N13, N14, N15, N16, N17, N18, N19, N20, N21, N22, N23, N24, N25, N26, N27, N28, N29, N30, N31, N32, N33, N34, N35, N36, N37, N38, N39, N40, N41, N42, N43, N45, N48, N57, N59, N88, N89, N97, N99, N120, N121, N122, N179, N200, N255, N300, N400, N880, N900, N999, N1019, N50000000, N100000000, N1000000000, N2147483647, N2147483648, a2, b2, d2, t5, r6, i2, e4, f1]
      · obtain ⟨j, rfl⟩ := Int.eq_ofNat_of_zero_le i3
        rw [i1]
        unfold eR2
        rw [i4, slot_ok (by omega) (by omega), bd_s, iv, gd_t, nm_W, xv]
        have hB5 : BY (wi σ5 (m + 11) E (I ((6 * u + j : Nat) : Int))) τ5 N bt := BYw (m := m) (BY_f hB4 i7 i8) (by omega)
        rcases num1_ok (lo := 0) (hi := 99) (K0 := fun σ2 => gd (isb (0 : Int32)) (some ((0 : Int32), σ2))) (K1 := eR3 m (I (E : Int))) (fun _ => rfl) hB5 (TKw (j := m + 11) (i := E) (x := I ((6 * u + j : Nat) : Int)) i5 (by omega)) (by omega) (by omega) with ⟨σ6, τ6, j1, j2, j3, j4, j5⟩ | ⟨σ6, τ6, v6, pl6, k6, l6', n6, j1, j2, j3, j3', j4, j5, j6, j7, j8⟩
        · obtain ⟨f, pf, -, -, hF⟩ := id j3
          obtain ⟨f1, f2, f3, f4, f5⟩ := hF
          refine Or.inl ⟨σ6, τ6, j1, ?_, j3, LCt (CGL a7) (LCt l2 (LCt (CGL g3) (LCt (CGL (CFG d5)) (LCt (CGL i7) (LCt (LCw (by omega)) (CGL j4)))))), LFt (RXL a8) (LFt (RXL d6) (LFt (RXL i8) (RXL j5)))⟩
          unfold f_X7_readEventLine_43
          clear hP hP1 hB hB2 hB3 hB4 hB5 hT hT2
          simp (disch := omega) only [↓reduceIte, gd_t, bd_s, nm_W, nm_I, I_add, I_sub, I_mul, I_neg, I_le_t, I_le_f, I_lt_t, I_lt_f, I_eq_t, I_eq_f, I_inb', I_ix', Int.toNat_natCast, decide_true, decide_false, Bool.not_false, Bool.not_true, if_true, if_false, wi_eq, wi_eq', wi_ne, wi_row, wi_2, N0, N1, N2, N3, N4, N5, N6, N7, N8, N9, N10, N11, N12, N13, N14, N15, N16, N17, N18, N19, N20, N21, N22, N23, N24, N25, N26, N27, N28, N29, N30, N31, N32, N33, N34, N35, N36, N37, N38, N39, N40, N41, N42, N43, N45, N48, N57, N59, N88, N89, N97, N99, N120, N121, N122, N179, N200, N255, N300, N400, N880, N900, N999, N1019, N50000000, N100000000, N1000000000, N2147483647, N2147483648, a2, b2, d2, t5, r6, i2, j2, f1]
        · rw [j1]
          unfold eR3
          rw [iv, gd_t, nm_W, xv, j4, nm_W]
          have keyR : RX τ τ6 := RXt a8 (RXt d6 (RXt i8 j8))
          have em : (wi σ6 (m + 12) E (I v6)).1 m 4 = I (E : Int) := by
            rw [wi_row (by omega), j7.1 m (by omega), wi_row (by omega), i7.1 m (by omega), d5.1 m (by omega), g3.1 m (by omega), g2 m (by omega), a7.1 m (by omega)]
            exact hP.2.2.2.2.2.2.2.1
          have e20 : τ6.1 102 20 = I (E : Int) := by rw [keyR.2.1 20 (by decide)]; exact hP.2.2.2.2.2.2.2.2.1
          rw [em, show I (E : Int) + (1 : Int32) = I ((E : Int) + 1) from I_add _ 1]
          obtain ⟨z1, z2⟩ := ev_good (σ := σ) (σ6 := σ6) (a := u) (k := j) (t := v1) (z := v6) hm hE hW hu (by rw [← hq]; omega) hP
            (fun x g1 g2' g3' => by rw [j7.1 x g1, wi_row g3', i7.1 x g1, d5.1 x g1, g3.1 x g1, g2 x g2', a7.1 x g1])
            (fun i g1 => by rw [j7.1 _ (by omega), wi_row (by omega), i7.1 _ (by omega), d5.1 _ (by omega), g3.1 _ (by omega), hσ2, wi_ne g1, a7.1 _ (by omega)])
            (fun i g1 => by rw [j7.1 _ (by omega), wi_ne g1, i7.1 _ (by omega), d5.1 _ (by omega), g3.1 _ (by omega), g2 _ (by omega), a7.1 _ (by omega)])
            (by rw [j7.1 _ (by omega), wi_row (by omega), i7.1 _ (by omega), d5.1 _ (by omega), g3.1 _ (by omega), hσ2, wi_eq])
            (by rw [j7.1 _ (by omega), wi_eq]) keyR j5 ⟨by omega, by omega⟩ (fun i hi => by have := hlo2 i hi; omega) ⟨j3, j3'⟩
          have g33 := (TK_33 j5).1
          refine Or.inr ⟨eC m σ6 E v6, eF τ6 E u j v1 v6, pl6, k6, l6', n6, _, rfl, ?_, z1, z2, by omega, LCt (CGL a7) (LCt l2 (LCt (CGL g3) (LCt (CGL (CFG d5)) (LCt (CGL i7) (LCt (LCw (by omega)) (LCt (CGL j7) (LCt (LCw (by omega)) (LCw (by omega))))))))), LFt (RXL keyR) (LFt (LFw (by omega)) (LFt (LFw (by omega)) (LFt (LFw (by omega)) (LFt (LFw (by omega)) (LFv (by omega))))))⟩
          have t0 : ((4 : Int) * (E : Int)).toNat = 4 * E := by omega
          have t1 : ((4 : Int) * (E : Int) + 1).toNat = 4 * E + 1 := by omega
          have t2 : ((4 : Int) * (E : Int) + 2).toNat = 4 * E + 2 := by omega
          have t3 : ((4 : Int) * (E : Int) + 3).toNat = 4 * E + 3 := by omega
          have vj : I ((j : Nat) : Int) = I (j : Int) := rfl
          unfold f_X7_readEventLine_43 eF
          clear z1 z2 hP hP1 hB hB2 hB3 hB4 hB5 hT hT2
          simp (disch := omega) only [↓reduceIte, gd_t, bd_s, nm_W, nm_I, I_add, I_sub, I_mul, I_neg, I_le_t, I_le_f, I_lt_t, I_lt_f, I_eq_t, I_eq_f, I_inb', I_ix', Int.toNat_natCast, decide_true, decide_false, Bool.not_false, Bool.not_true, if_true, if_false, wi_eq, wi_eq', wi_ne, wi_row, wi_2, N0, N1, N2, N3, N4, N5, N6, N7, N8, N9, N10, N11, N12, N13, N14, N15, N16, N17, N18, N19, N20, N21, N22, N23, N24, N25, N26, N27, N28, N29, N30, N31, N32, N33, N34, N35, N36, N37, N38, N39, N40, N41, N42, N43, N45, N48, N57, N59, N88, N89, N97, N99, N120, N121, N122, N179, N200, N255, N300, N400, N880, N900, N999, N1019, N50000000, N100000000, N1000000000, N2147483647, N2147483648, a2, b2, d2, t5, r6, i2, j2, g33, e20, t0, t1, t2, t3]
end
section
/-! PURE: the text: an event's line, whole; any line; all lines -/
theorem event_ok {m N pl V E : Nat} {bt : Nat → Int} {σ τ : Wd} {k n W p L : Int} {l : List Int} {d : MD} {dl et : Nat → Int} (hm : 10 < m) (hB : BY σ τ N bt) (hT : TK σ τ N bt pl k l n) (hk : k = 1) (hP : PRD m σ τ W p L V E d dl et) :
    (∃ (σ' τ' : Wd), (if (10 : Int32) ≤ (σ.1 m 4) then (f_X5_readLine_120 m (0 : Int32) σ) else (f_X5_readLine_120 m (1 : Int32) σ)) = some (I 0, σ') ∧ f_X7_readEventLine τ = some (0, τ') ∧ BD σ' τ' ∧ LC m σ σ' ∧ LF τ τ')
    ∨ (∃ (σ' τ' : Wd) (pl' : Nat) (k' : Int) (l' : List Int) (n' : Int) (et' : Nat → Int) (E' : Nat), (if (10 : Int32) ≤ (σ.1 m 4) then (f_X5_readLine_120 m (0 : Int32) σ) else (f_X5_readLine_120 m (1 : Int32) σ)) = some (I 1, σ') ∧ f_X7_readEventLine τ = some (0, τ') ∧ PRD m σ' τ' W p L V E' d dl et' ∧ TK σ' τ' N bt pl' k' l' n' ∧ pl ≤ pl' ∧ LC m σ σ' ∧ LF τ τ') := by
  have E10 := hP.2.2.2.2.2.2.1
  have h4 := hP.2.2.2.2.2.2.2.1
  have h20 := hP.2.2.2.2.2.2.2.2.1
  obtain ⟨x, hx, hxv⟩ : ∃ x : Int, (x = 0 ∨ x = 1) ∧ ((x = 1) ↔ E = 10) := by
    by_cases c : E = 10
    · exact ⟨1, Or.inr rfl, by omega⟩
    · exact ⟨0, Or.inl rfl, by omega⟩
  have ec : (if (10 : Int32) ≤ (σ.1 m 4) then (f_X5_readLine_120 m (0 : Int32) σ) else (f_X5_readLine_120 m (1 : Int32) σ)) = f_X5_readLine_120 m (I (1 - x)) σ := by
    rw [h4]
    by_cases c : E = 10
    · rw [hxv.mpr c, if_pos (show (10 : Int32) ≤ I (E : Int) by rw [c]; decide)]
      rfl
    · have x0 : x = 0 := by omega
      rw [x0, if_neg (show ¬ (10 : Int32) ≤ I (E : Int) by show ¬ I 10 ≤ I (E : Int); rw [I_le (by unfold R; omega) (by unfold R; omega)]; omega)]
      rfl
  have er : f_X7_readEventLine τ = f_X7_readEventLine_15 (I x) τ := by
    unfold f_X7_readEventLine
    rw [h20]
    by_cases c : E = 10
    · rw [hxv.mpr c, if_pos (show I (E : Int) = (10 : Int32) by rw [c]; rfl)]
      rfl
    · have x0 : x = 0 := by omega
      rw [x0, if_neg (show ¬ I (E : Int) = (10 : Int32) by show ¬ I (E : Int) = I 10; rw [I_eq (by unfold R; omega) (by unfold R; omega)]; omega)]
      rfl
  rw [ec, er]
  unfold f_X5_readLine_120 f_X7_readEventLine_15
  rcases opens_ok hm hx hB hT hk hP.1.1 hP.1.2.1 ⟨hP.1.2.2.1, hP.1.2.2.2.1⟩ with ⟨σ1, τ1, a1, a2, a3, a4, a5⟩ | ⟨σ1, τ1, pl1, k1, l1, n1, x0, W0, a1, a2, a3, a4, a5, a6⟩
  · obtain ⟨f, pf, -, -, hF⟩ := id a3
    have e20 : τ1.1 102 20 = I (E : Int) := by rw [a5.2.1 20 (by decide)]; exact h20
    refine Or.inl ⟨σ1, τ1, ?_, ?_, a3, CGL a4, RXL a5⟩
    · rw [a1, bd_s, if_pos (show I 0 = (0 : Int32) from rfl)]
      rfl
    · have e43 : ∀ s1 : Int32, f_X7_readEventLine_43 s1 τ1 = some (0, τ1) := fun s1 => ft_ev43 hF
      by_cases c : E = 0
      · have ec : (E : Int) = 0 := by omega
        simp (disch := omega) only [↓reduceIte, gd_t, bd_s, nm_W, nm_I, I_add, I_sub, I_mul, I_neg, I_le_t, I_le_f, I_lt_t, I_lt_f, I_eq_t, I_eq_f, I_inb', I_ix', Int.toNat_natCast, decide_true, decide_false, Bool.not_false, Bool.not_true, if_true, if_false, wi_eq, wi_eq', wi_ne, wi_row, wi_2, N0, N1, N2, N3, N4, N5, N6, N7, N8, N9, N10, N11, N12, N13, N14, N15, N16, N17, N18, N19, N20, N21, N22, N23, N24, N25, N26, N27, N28, N29, N30, N31, N32, N33, N34, N35, N36, N37, N38, N39, N40, N41, N42, N43, N45, N48, N57, N59, N88, N89, N97, N99, N120, N121, N122, N179, N200, N255, N300, N400, N880, N900, N999, N1019, N50000000, N100000000, N1000000000, N2147483647, N2147483648, a2, e20, e43]
      · simp (disch := omega) only [↓reduceIte, gd_t, bd_s, nm_W, nm_I, I_add, I_sub, I_mul, I_neg, I_le_t, I_le_f, I_lt_t, I_lt_f, I_eq_t, I_eq_f, I_inb', I_ix', Int.toNat_natCast, decide_true, decide_false, Bool.not_false, Bool.not_true, if_true, if_false, wi_eq, wi_eq', wi_ne, wi_row, wi_2, N0, N1, N2, N3, N4, N5, N6, N7, N8, N9, N10, N11, N12, N13, N14, N15, N16, N17, N18, N19, N20, N21, N22, N23, N24, N25, N26, N27, N28, N29, N30, N31, N32, N33, N34, N35, N36, N37, N38, N39, N40, N41, N42, N43, N45, N48, N57, N59, N88, N89, N97, N99, N120, N121, N122, N179, N200, N255, N300, N400, N880, N900, N999, N1019, N50000000, N100000000, N1000000000, N2147483647, N2147483648, a2, e20, e43]
  · have hE : E < 10 := by omega
    have hB1 := BY_f hB a5 a6
    have hP1 := PRD_f hm hP a5 a6
    have c4 : σ1.1 m 4 = I (E : Int) := hP1.2.2.2.2.2.2.2.1
    have c20 : τ1.1 102 20 = I (E : Int) := hP1.2.2.2.2.2.2.2.2.1
    have key : ∃ lo : Int, 1 ≤ lo ∧ lo ≤ 200 ∧ (∀ i, i + 1 = E → et i ≤ lo) ∧ f_X5_readEvent m (σ1.1 m 4) σ1 = f_X5_readEvent_16 m (I (E : Int)) (I lo) σ1 ∧ (if (τ1.1 102 20) = 0 then (f_X7_readEventLine_43 (1 : Int32) τ1) else (gd (inb (((4 : Int32) * (τ1.1 102 20)) - (4 : Int32)) 40) ((f_X7_readEventLine_43 (τ1.1 108 (ix (((4 : Int32) * (τ1.1 102 20)) - (4 : Int32)))) τ1)))) = f_X7_readEventLine_43 (I lo) τ1 := by
      by_cases c : E = 0
      · refine ⟨1, by omega, by omega, fun i hi => by omega, ?_, ?_⟩
        · unfold f_X5_readEvent
          rw [c4, if_pos (show I (E : Int) ≤ (0 : Int32) by rw [c]; decide)]
          rfl
        · rw [c20, if_pos (show I (E : Int) = (0 : Int32) by rw [c]; rfl)]
          rfl
      · obtain ⟨j, rfl⟩ : ∃ j, E = j + 1 := ⟨E - 1, by omega⟩
        obtain ⟨-, -, -, -, -, -, -, y1, y2, y3, y4, -⟩ := hP1.2.2.2.2.2.2.2.2.2.1 j (by omega)
        refine ⟨et j, y1, y2, fun i hi => by rw [show i = j by omega]; exact Int.le_refl _, ?_, ?_⟩
        · have t1 : (((j + 1 : Nat) : Int) - 1).toNat = j := by omega
          unfold f_X5_readEvent
          clear hP hP1 hB hB1 hT ec er
          simp (disch := omega) only [↓reduceIte, gd_t, bd_s, nm_W, nm_I, I_add, I_sub, I_mul, I_neg, I_le_t, I_le_f, I_lt_t, I_lt_f, I_eq_t, I_eq_f, I_inb', I_ix', Int.toNat_natCast, decide_true, decide_false, Bool.not_false, Bool.not_true, if_true, if_false, wi_eq, wi_eq', wi_ne, wi_row, wi_2, N0, N1, N2, N3, N4, N5, N6, N7, N8, N9, N10, N11, N12, N13, N14, N15, N16, N17, N18, N19, N20, N21, N22, N23, N24, N25, N26, N27, N28, N29, N30, N31, N32, N33, N34, N35, N36, N37, N38, N39, N40, N41, N42, N43, N45, N48, N57, N59, N88, N89, N97, N99, N120, N121, N122, N179, N200, N255, N300, N400, N880, N900, N999, N1019, N50000000, N100000000, N1000000000, N2147483647, N2147483648, c4, t1, y3]
        · have t1 : ((4 : Int) * ((j + 1 : Nat) : Int) - 4).toNat = 4 * j := by omega
          clear hP hP1 hB hB1 hT ec er
          simp (disch := omega) only [↓reduceIte, gd_t, bd_s, nm_W, nm_I, I_add, I_sub, I_mul, I_neg, I_le_t, I_le_f, I_lt_t, I_lt_f, I_eq_t, I_eq_f, I_inb', I_ix', Int.toNat_natCast, decide_true, decide_false, Bool.not_false, Bool.not_true, if_true, if_false, wi_eq, wi_eq', wi_ne, wi_row, wi_2, N0, N1, N2, N3, N4, N5, N6, N7, N8, N9, N10, N11, N12, N13, N14, N15, N16, N17, N18, N19, N20, N21, N22, N23, N24, N25, N26, N27, N28, N29, N30, N31, N32, N33, N34, N35, N36, N37, N38, N39, N40, N41, N42, N43, N45, N48, N57, N59, N88, N89, N97, N99, N120, N121, N122, N179, N200, N255, N300, N400, N880, N900, N999, N1019, N50000000, N100000000, N1000000000, N2147483647, N2147483648, c20, t1, y4]
    obtain ⟨lo, o1, o2, o3, o4, o5⟩ := key
    rw [a1, bd_s, if_neg (show ¬ I 1 = (0 : Int32) by decide), a2, bd_s, o4, o5]
    rcases ev16_ok hm hB1 a3 hE W0 ⟨o1, o2⟩ o3 hP1 with ⟨σ2, τ2, q1, q2, q3, q4, q5⟩ | ⟨σ2, τ2, pl2, k2, l2, n2, et2, q1, q2, q3, q4, q5, q6, q7⟩
    · refine Or.inl ⟨σ2, τ2, ?_, q2, q3, LCt (CGL a5) q4, LFt (RXL a6) q5⟩
      rw [q1, bd_s, if_pos (show I 0 = (0 : Int32) from rfl)]
      rfl
    · refine Or.inr ⟨σ2, τ2, pl2, k2, l2, n2, et2, E + 1, ?_, q2, q3, q4, by omega, LCt (CGL a5) q6, LFt (RXL a6) q7⟩
      rw [q1, bd_s, if_neg (show ¬ I 1 = (0 : Int32) by decide)]
      rfl
theorem line_ok {m N pl V E : Nat} {bt : Nat → Int} {σ τ : Wd} {k n W p L : Int} {l : List Int} {d : MD} {dl et : Nat → Int} (hm : 10 < m) (hB : BY σ τ N bt) (hT : TK σ τ N bt pl k l n) (hP : PRD m σ τ W p L V E d dl et) :
    (∃ (σ' τ' : Wd), f_X5_readLine m σ = some (I 0, σ') ∧ f_X7_readLine τ = some (0, τ') ∧ BD σ' τ' ∧ LC m σ σ' ∧ LF τ τ')
    ∨ (∃ (σ' τ' : Wd) (pl' : Nat) (k' : Int) (l' : List Int) (n' W' p' L' : Int) (V' E' : Nat) (d' : MD) (dl' et' : Nat → Int), f_X5_readLine m σ = some (I 1, σ') ∧ f_X7_readLine τ = some (0, τ') ∧ PRD m σ' τ' W' p' L' V' E' d' dl' et' ∧ TK σ' τ' N bt pl' k' l' n' ∧ pl ≤ pl' ∧ LC m σ σ' ∧ LF τ τ') := by
  obtain ⟨a0, b0⟩ := isw_ok (w := 0) (by decide) hB hT
  obtain ⟨a1, b1⟩ := isw_ok (w := 1) (by decide) hB hT
  obtain ⟨a2, b2⟩ := isw_ok (w := 2) (by decide) hB hT
  obtain ⟨a3, b3⟩ := isw_ok (w := 3) (by decide) hB hT
  unfold f_X5_readLine f_X7_readLine
  rw [a0, b0, bd_s, bd_s]
  by_cases c0 : k = 1 ∧ l = lw 0
  · rw [decide_eq_true c0, bn_t, if_neg (show ¬ I 1 = (0 : Int32) by decide), if_neg (show ¬ I 1 = (0 : Int32) by decide)]
    rcases order_ok hm hB hT c0 hP with ⟨σ1, τ1, q1, q2, q3⟩ | ⟨σ1, τ1, pl1, k1, l1, n1, W1, p1, L1, q1, q2, q3⟩
    · exact Or.inl ⟨σ1, τ1, by rw [q1, bd_s]; rfl, by rw [q2, bd_s]; rfl, q3⟩
    · exact Or.inr ⟨σ1, τ1, pl1, k1, l1, n1, W1, p1, L1, V, E, d, dl, et, by rw [q1, bd_s]; rfl, by rw [q2, bd_s]; rfl, q3⟩
  · rw [decide_eq_false c0, bn_f, if_pos (show I 0 = (0 : Int32) from rfl), if_pos (show I 0 = (0 : Int32) from rfl), a1, b1, bd_s, bd_s]
    by_cases c1 : k = 1 ∧ l = lw 1
    · rw [decide_eq_true c1, bn_t, if_neg (show ¬ I 1 = (0 : Int32) by decide), if_neg (show ¬ I 1 = (0 : Int32) by decide)]
      rcases venue_ok hm hB hT c1.1 hP with ⟨σ1, τ1, q1, q2, q3⟩ | ⟨σ1, τ1, pl1, k1, l1, n1, d1, dl1, V1, q1, q2, q3⟩
      · exact Or.inl ⟨σ1, τ1, q1, by rw [q2, bd_s]; rfl, q3⟩
      · exact Or.inr ⟨σ1, τ1, pl1, k1, l1, n1, W, p, L, V1, E, d1, dl1, et, q1, by rw [q2, bd_s]; rfl, q3⟩
    · rw [decide_eq_false c1, bn_f, if_pos (show I 0 = (0 : Int32) from rfl), if_pos (show I 0 = (0 : Int32) from rfl), a2, b2, bd_s, bd_s]
      by_cases c2 : k = 1 ∧ l = lw 2
      · rw [decide_eq_true c2, bn_t, if_neg (show ¬ I 1 = (0 : Int32) by decide), if_neg (show ¬ I 1 = (0 : Int32) by decide)]
        rcases level_ok hm hB hT c2.1 hP with ⟨σ1, τ1, q1, q2, q3⟩ | ⟨σ1, τ1, pl1, k1, l1, n1, d1, q1, q2, q3⟩
        · exact Or.inl ⟨σ1, τ1, q1, by rw [q2, bd_s]; rfl, q3⟩
        · exact Or.inr ⟨σ1, τ1, pl1, k1, l1, n1, W, p, L, V, E, d1, dl, et, q1, by rw [q2, bd_s]; rfl, q3⟩
      · rw [decide_eq_false c2, bn_f, if_pos (show I 0 = (0 : Int32) from rfl), if_pos (show I 0 = (0 : Int32) from rfl), a3, b3, bd_s, bd_s]
        by_cases c3 : k = 1 ∧ l = lw 3
        · rw [decide_eq_true c3, bn_t, if_neg (show ¬ I 1 = (0 : Int32) by decide), if_neg (show ¬ I 1 = (0 : Int32) by decide)]
          rcases event_ok hm hB hT c3.1 hP with ⟨σ1, τ1, q1, q2, q3⟩ | ⟨σ1, τ1, pl1, k1, l1, n1, et1, E1, q1, q2, q3⟩
          · exact Or.inl ⟨σ1, τ1, q1, by rw [q2, bd_s]; rfl, q3⟩
          · exact Or.inr ⟨σ1, τ1, pl1, k1, l1, n1, W, p, L, V, E1, d, dl, et1, q1, by rw [q2, bd_s]; rfl, q3⟩
        · obtain ⟨σ1, τ1, q1, q2, q3, q4, q5⟩ := bad_ok (c := 1) hT (by omega)
          rw [decide_eq_false c3, bn_f, if_pos (show I 0 = (0 : Int32) from rfl), if_pos (show I 0 = (0 : Int32) from rfl)]
          refine Or.inl ⟨σ1, τ1, ?_, ?_, q3, CGL q4, RXL q5⟩
          · rw [show f_X5_fails (1 : Int32) σ = some (I 0, σ1) from q1, bd_s]
            rfl
          · rw [show f_X7_flaw (1 : Int32) τ = some (0, τ1) from q2, bd_s]
            rfl
theorem ft_all {τ : Wd} {f : Int} {pl n : Nat} (h : FT τ f pl) (hn : 0 < n) : f_X7_readAll_23 n τ = some (0, τ) := by
  cases n with
  | zero => omega
  | succ n =>
    have e1 := ft_sign (c := I 59) h
    have e2 := ft_flaw (c := I 1) h
    obtain ⟨h1, h2, h3, h4, h5⟩ := h
    rw [f_X7_readAll_23]
    unfold f_X7_readAll_56 f_X7_readAll_83
    simp (disch := omega) only [↓reduceIte, gd_t, bd_s, nm_W, nm_I, I_add, I_sub, I_mul, I_neg, I_le_t, I_le_f, I_lt_t, I_lt_f, I_eq_t, I_eq_f, I_inb', I_ix', Int.toNat_natCast, decide_true, decide_false, Bool.not_false, Bool.not_true, if_true, if_false, wi_eq, wi_eq', wi_ne, wi_row, wi_2, N0, N1, N2, N3, N4, N5, N6, N7, N8, N9, N10, N11, N12, N13, N14, N15, N16, N17, N18, N19, N20, N21, N22, N23, N24, N25, N26, N27, N28, N29, N30, N31, N32, N33, N34, N35, N36, N37, N38, N39, N40, N41, N42, N43, N45, N48, N57, N59, N88, N89, N97, N99, N120, N121, N122, N179, N200, N255, N300, N400, N880, N900, N999, N1019, N50000000, N100000000, N1000000000, N2147483647, N2147483648, e1, e2, h4, h1]
/-- all lines -/
theorem text_ok {m N : Nat} {bt : Nat → Int} (hm : 10 < m) : ∀ (r i n n' pl V E : Nat) (z : Int) (σ τ : Wd) (k x W p L : Int) (l : List Int) (d : MD) (dl et : Nat → Int), z = (i : Int) → i + r = 901 → r < n → r < n' → i ≤ pl → BY σ τ N bt → TK σ τ N bt pl k l x → PRD m σ τ W p L V E d dl et →
    (∃ (σ' τ' : Wd), f_X5_readInto_30 m n (I z) σ = some (I 0, σ') ∧ (bd (f_X7_readLine τ) fun _ s => f_X7_readAll_23 n' s) = some (0, τ') ∧ BD σ' τ' ∧ LC m σ σ' ∧ LF τ τ')
    ∨ (∃ (σ' τ' : Wd) (W' p' L' : Int) (V' E' : Nat) (d' : MD) (dl' et' : Nat → Int), f_X5_readInto_30 m n (I z) σ = some (I 1, σ') ∧ (bd (f_X7_readLine τ) fun _ s => f_X7_readAll_23 n' s) = some (0, τ') ∧ PRD m σ' τ' W' p' L' V' E' d' dl' et' ∧ (W' ≠ 0 ∧ 0 < V') ∧ (τ'.1 102 33 = I 0 ∧ σ'.1 1 1 = I 0) ∧ LC m σ σ' ∧ LF τ τ')
  | 0, i, n, n', pl, V, E, z, σ, τ, k, x, W, p, L, l, d, dl, et, hz, hi, hn, hn', hp, hB, hT, hP => by
    obtain ⟨nx, ⟨n1, n2, -⟩, -⟩ := hT
    have := hB.1
    omega
  | r + 1, i, n + 1, n' + 1, pl, V, E, z, σ, τ, k, x, W, p, L, l, d, dl, et, hz, hi, hn, hn', hp, hB, hT, hP => by
    have i900 : i ≤ 900 := by
      obtain ⟨nx, ⟨n1, n2, -⟩, -⟩ := hT
      have := hB.1
      omega
    have ez : ¬ (900 : Int32) < I z := by
      show ¬ I 900 < I z
      rw [I_lt (by unfold R; omega) (by unfold R; omega)]
      omega
    rw [f_X5_readInto_30]
    dsimp only
    rw [if_neg ez]
    rcases line_ok hm hB hT hP with ⟨σ1, τ1, q1, q2, q3, q4, q5⟩ | ⟨σ1, τ1, pl1, k1, l1, n1, W1, p1, L1, V1, E1, d1, dl1, et1, q1, q2, q3, q4, q5, q6, q7⟩
    · obtain ⟨f, pf, -, -, hF⟩ := id q3
      refine Or.inl ⟨σ1, τ1, ?_, ?_, q3, q4, q5⟩
      · rw [q1, bd_s, if_pos (show I 0 = (0 : Int32) from rfl)]
        rfl
      · rw [q2, bd_s]
        exact ft_all hF (by omega)
    · have hB1 : BY σ1 τ1 N bt := by
        unfold BY at hB ⊢
        rw [q6.1 2 (by decide) (by decide) (by omega), q7.1 115 (by decide) (by decide)]
        exact hB
      obtain ⟨g33, g7⟩ := TK_33 q4
      have kb := TK_k q4
      have V5 := q3.2.2.1.1.1
      have c3 := q3.2.2.1.2.1
      have c19 := q3.2.2.1.2.2
      have c16 := q3.1.2.1
      have W120 := q3.1.2.2.2.1
      have W00 := q3.1.2.2.1
      have sg := sign_ok (c := 59) q4 (Or.inl rfl)
      rw [q1, bd_s, if_neg (show ¬ I 1 = (0 : Int32) by decide), q2, bd_s, g7]
      rw [f_X7_readAll_23]
      dsimp only
      rw [show f_X7_isSign (59 : Int32) τ1 = _ from sg, bd_s]
      by_cases k0 : k1 = 0
      · have e30 : τ1.1 102 30 = I 1 := by
          obtain ⟨nx, -, -, -, hc⟩ := q4
          rcases hc with ⟨q, h⟩ | ⟨q, h, -⟩ | ⟨q, h, -⟩ | ⟨q, h, -⟩ | ⟨q, h, -⟩ | ⟨q, h⟩
          · exact h
          · omega
          · omega
          · omega
          · omega
          · omega
        rw [k0, if_pos (show I 0 = (0 : Int32) from rfl), decide_eq_false (by omega), bn_f, if_pos (show I 0 = (0 : Int32) from rfl), e30, if_pos (show I 1 = (1 : Int32) from rfl), c3]
        by_cases v0 : V1 = 0
        · obtain ⟨σ2, τ2, r1, r2, r3, r4, r5⟩ := bad_ok (c := 6) q4 (by omega)
          refine Or.inl ⟨σ2, τ2, ?_, ?_, r3, LCt q6 (CGL r4), LFt q7 (RXL r5)⟩
          · rw [if_neg (show ¬ (0 : Int32) < I (V1 : Int) by rw [v0]; decide), show f_X5_fails (6 : Int32) σ1 = some (I 0, σ2) from r1, bd_s, if_pos (show I 0 = (0 : Int32) from rfl)]
            rfl
          · unfold f_X7_readAll_56 f_X7_readAll_77 f_X7_readAll_83
            rw [g33, if_pos (show I 0 = (0 : Int32) from rfl), c16, c19, v0, if_pos (show I ((0 : Nat) : Int) = (0 : Int32) from rfl), show f_X7_flaw (6 : Int32) τ1 = some (0, τ2) from r2, bd_s]
            by_cases w0 : I W1 = (0 : Int32)
            · rw [if_pos w0]
            · rw [if_neg w0]
        · have w0 : W1 ≠ 0 := fun q => v0 (q3.1.2.2.2.2 q).1
          have c1 : σ1.1 1 1 = I 0 := by
            obtain ⟨nx, -, ⟨-, -, -, -, h⟩, -⟩ := q4
            exact h
          refine Or.inr ⟨σ1, τ1, W1, p1, L1, V1, E1, d1, dl1, et1, ?_, ?_, q3, ⟨w0, by omega⟩, ⟨g33, c1⟩, q6, q7⟩
          · rw [if_pos (show (0 : Int32) < I (V1 : Int) by show I 0 < I (V1 : Int); rw [I_lt (by unfold R; omega) (by unfold R; omega)]; omega)]
            rfl
          · unfold f_X7_readAll_56 f_X7_readAll_83
            rw [g33, if_pos (show I 0 = (0 : Int32) from rfl), c16, c19, if_neg (show ¬ I W1 = (0 : Int32) by show ¬ I W1 = I 0; rw [I_eq (by unfold R; omega) (by unfold R; omega)]; exact w0), if_neg (show ¬ I (V1 : Int) = (0 : Int32) by show ¬ I (V1 : Int) = I 0; rw [I_eq (by unfold R; omega) (by unfold R; omega)]; omega)]
      · rw [if_neg (show ¬ I k1 = (0 : Int32) by show ¬ I k1 = I 0; rw [I_eq (by unfold R; omega) (by unfold R; omega)]; exact k0)]
        by_cases k3 : k1 = 3
        · obtain ⟨σ2, τ2, pl2, k2, l2, n2, r1, r2, r3, r4, r5, r6⟩ := step_ok hB1 q4 (by omega)
          have := r4.2 k3
          rw [k3, if_pos (show I 3 = (3 : Int32) from rfl), decide_eq_true (by omega), bn_t, if_neg (show ¬ I 1 = (0 : Int32) by decide), r1, bd_s, r2, bd_s, show I z + (1 : Int32) = I (z + 1) from I_add _ 1]
          rcases text_ok hm r (i + 1) n n' pl2 V1 E1 (z + 1) σ2 τ2 k2 n2 W1 p1 L1 l2 d1 dl1 et1 (by omega) (by omega) (by omega) (by omega) (by omega) (BY_f hB1 (CFG r5) r6) r3 (PRD_f hm q3 (CFG r5) r6) with ⟨σ3, τ3, s1, s2, s3, s4, s5⟩ | ⟨σ3, τ3, W3, p3, L3, V3, E3, d3, dl3, et3, s1, s2, s3, s4, s5, s6, s7⟩
          · exact Or.inl ⟨σ3, τ3, s1, s2, s3, LCt q6 (LCt (CGL (CFG r5)) s4), LFt q7 (LFt (RXL r6) s5)⟩
          · exact Or.inr ⟨σ3, τ3, W3, p3, L3, V3, E3, d3, dl3, et3, s1, s2, s3, s4, s5, LCt q6 (LCt (CGL (CFG r5)) s6), LFt q7 (LFt (RXL r6) s7)⟩
        · obtain ⟨σ2, τ2, r1, r2, r3, r4, r5⟩ := bad_ok (c := 1) q4 (by omega)
          obtain ⟨f, pf, -, -, hF⟩ := id r3
          have n33 := RX33 (τ := τ) hF
          have n30 : ¬ τ1.1 102 30 = (1 : Int32) := by
            show ¬ τ1.1 102 30 = I 1
            obtain ⟨nx, -, -, -, hc⟩ := q4
            rcases hc with ⟨q, h⟩ | ⟨q, h, -⟩ | ⟨q, h, -⟩ | ⟨q, h, -⟩ | ⟨q, h, -⟩ | ⟨q, h⟩
            · omega
            · rw [h]; decide
            · rw [h]; decide
            · omega
            · rw [h]; decide
            · rw [h]; decide
          refine Or.inl ⟨σ2, τ2, ?_, ?_, r3, LCt q6 (CGL r4), LFt q7 (RXL r5)⟩
          · rw [if_neg (show ¬ I k1 = (3 : Int32) by show ¬ I k1 = I 3; rw [I_eq (by unfold R; omega) (by unfold R; omega)]; exact k3), show f_X5_fails (1 : Int32) σ1 = some (I 0, σ2) from r1, bd_s]
            rfl
          · rw [decide_eq_false (by omega), bn_f, if_pos (show I 0 = (0 : Int32) from rfl), if_neg n30, show f_X7_flaw (1 : Int32) τ1 = some (0, τ2) from r2, bd_s]
            unfold f_X7_readAll_56 f_X7_readAll_83
            rw [if_neg n33]
end
section
/-! PURE: a market cleared, a run cleared, a text taken over -/
theorem cClr27 {b : Nat} : ∀ (r i n : Nat) (z : Int) (σ : Wd), z = (i : Int) → i + r = 5 → r < n → (∀ v, v < i → σ.1 (b + 6) v = I 0 ∧ σ.1 (b + 7) v = I 0) →
    ∃ σ', f_X3_clear_27 b n (I z) σ = some (0, σ') ∧ (∀ v, v < 5 → σ'.1 (b + 6) v = I 0 ∧ σ'.1 (b + 7) v = I 0) ∧ (∀ k, k ≠ b + 6 → k ≠ b + 7 → σ'.1 k = σ.1 k) ∧ σ'.2 = σ.2
  | 0, i, n + 1, z, σ, hz, hi, _, h => by
    refine ⟨σ, ?_, fun v hv => h v (by omega), fun _ _ _ => rfl, rfl⟩
    rw [f_X3_clear_27]
    simp (disch := omega) only [↓reduceIte, gd_t, bd_s, nm_W, nm_I, I_add, I_sub, I_mul, I_neg, I_le_t, I_le_f, I_lt_t, I_lt_f, I_eq_t, I_eq_f, I_inb', I_ix', Int.toNat_natCast, decide_true, decide_false, Bool.not_false, Bool.not_true, if_true, if_false, wi_eq, wi_eq', wi_ne, wi_row, wi_2, N0, N1, N2, N3, N4, N5, N6, N7, N8, N9, N10, N11, N12, N13, N14, N15, N16, N17, N18, N19, N20, N21, N22, N23, N24, N25, N26, N27, N28, N29, N30, N31, N32, N33, N34, N35, N36, N37, N38, N39, N40, N41, N42, N43, N45, N48, N57, N59, N88, N89, N97, N99, N120, N121, N122, N179, N200, N255, N300, N400, N880, N900, N999, N1019, N50000000, N100000000, N1000000000, N2147483647, N2147483648]
  | r + 1, i, n + 1, z, σ, hz, hi, hn, h => by
    have tz : z.toNat = i := by omega
    obtain ⟨σ', q1, q2, q3, q4⟩ := cClr27 (b := b) r (i + 1) n (z + 1) (wi (wi σ (b + 6) i (I 0)) (b + 7) i (I 0)) (by omega) (by omega) (by omega) (fun v hv => by
      by_cases c : v = i
      · rw [c, wi_row (by omega), wi_eq, wi_eq]; exact ⟨rfl, rfl⟩
      · rw [wi_row (by omega), wi_ne c, wi_ne c, wi_row (by omega)]; exact h v (by omega))
    refine ⟨σ', ?_, q2, fun k h1 h2 => by rw [q3 k h1 h2, wi_row h2, wi_row h1], by rw [q4, wi_2, wi_2]⟩
    rw [← q1, f_X3_clear_27]
    simp (disch := omega) only [↓reduceIte, gd_t, bd_s, nm_W, nm_I, I_add, I_sub, I_mul, I_neg, I_le_t, I_le_f, I_lt_t, I_lt_f, I_eq_t, I_eq_f, I_inb', I_ix', Int.toNat_natCast, decide_true, decide_false, Bool.not_false, Bool.not_true, if_true, if_false, wi_eq, wi_eq', wi_ne, wi_row, wi_2, N0, N1, N2, N3, N4, N5, N6, N7, N8, N9, N10, N11, N12, N13, N14, N15, N16, N17, N18, N19, N20, N21, N22, N23, N24, N25, N26, N27, N28, N29, N30, N31, N32, N33, N34, N35, N36, N37, N38, N39, N40, N41, N42, N43, N45, N48, N57, N59, N88, N89, N97, N99, N120, N121, N122, N179, N200, N255, N300, N400, N880, N900, N999, N1019, N50000000, N100000000, N1000000000, N2147483647, N2147483648, tz]
theorem cClear {m : Nat} {σ : Wd} : ∃ σ', f_X3_clear m σ = some (0, σ') ∧ (∀ i, i < 5 → σ'.1 m i = I 0) ∧ (∀ v, v < 5 → σ'.1 (m + 6) v = I 0 ∧ σ'.1 (m + 7) v = I 0) ∧ (∀ k, k ≠ m → k ≠ m + 6 → k ≠ m + 7 → σ'.1 k = σ.1 k) ∧ σ'.2 = σ.2 := by
  obtain ⟨σ', q1, q2, q3, q4⟩ := cClr27 (b := m) 5 0 FU 0 (wi (wi (wi (wi (wi σ m 0 (I 0)) m 1 (I 0)) m 2 (I 0)) m 3 (I 0)) m 4 (I 0)) rfl rfl (by decide) (fun v hv => absurd hv (by omega))
  refine ⟨σ', q1, fun i hi => ?_, q2, fun k h1 h2 h3 => ?_, by rw [q4]; rfl⟩
  · rw [q3 m (by omega) (by omega)]
    rcases (show i = 0 ∨ i = 1 ∨ i = 2 ∨ i = 3 ∨ i = 4 by omega) with c | c | c | c | c <;> subst c <;> simp (disch := omega) only [wi_eq, wi_eq', wi_ne, wi_row, wi_2]
  · rw [q3 k h2 h3, wi_row h1, wi_row h1, wi_row h1, wi_row h1, wi_row h1]
theorem cClr42 {r : Nat} : ∀ (q i n : Nat) (z : Int) (σ : Wd), z = (i : Int) → i + q = 5 → q < n → (∀ v, v < i → (∀ k, r + 1 ≤ k → k ≤ r + 6 → σ.1 k v = I 0) ∧ σ.1 (r + 7) v = I (-2) ∧ σ.1 (r + 8) v = I (-2)) →
    ∃ σ', f_X4_clear_42 r n (I z) σ = some (0, σ') ∧ (∀ v, v < 5 → (∀ k, r + 1 ≤ k → k ≤ r + 6 → σ'.1 k v = I 0) ∧ σ'.1 (r + 7) v = I (-2) ∧ σ'.1 (r + 8) v = I (-2)) ∧ σ'.1 (r + 9) 0 = I 0 ∧ (∀ k, k < r + 1 ∨ r + 9 < k → σ'.1 k = σ.1 k) ∧ σ'.2 = σ.2
  | 0, i, n + 1, z, σ, hz, hi, _, h => by
    refine ⟨wi σ (r + 9) 0 (I 0), ?_, fun v hv => ?_, wi_eq, fun k hk => wi_row (by omega), rfl⟩
    · rw [f_X4_clear_42]
      simp (disch := omega) only [↓reduceIte, gd_t, bd_s, nm_W, nm_I, I_add, I_sub, I_mul, I_neg, I_le_t, I_le_f, I_lt_t, I_lt_f, I_eq_t, I_eq_f, I_inb', I_ix', Int.toNat_natCast, decide_true, decide_false, Bool.not_false, Bool.not_true, if_true, if_false, wi_eq, wi_eq', wi_ne, wi_row, wi_2, N0, N1, N2, N3, N4, N5, N6, N7, N8, N9, N10, N11, N12, N13, N14, N15, N16, N17, N18, N19, N20, N21, N22, N23, N24, N25, N26, N27, N28, N29, N30, N31, N32, N33, N34, N35, N36, N37, N38, N39, N40, N41, N42, N43, N45, N48, N57, N59, N88, N89, N97, N99, N120, N121, N122, N179, N200, N255, N300, N400, N880, N900, N999, N1019, N50000000, N100000000, N1000000000, N2147483647, N2147483648]
    · obtain ⟨h1, h2, h3⟩ := h v (by omega)
      exact ⟨fun k k1 k2 => by rw [wi_row (by omega)]; exact h1 k k1 k2, by rw [wi_row (by omega)]; exact h2, by rw [wi_row (by omega)]; exact h3⟩
  | q + 1, i, n + 1, z, σ, hz, hi, hn, h => by
    have cd := cDrop (r := r) (v := i) (σ := σ) (by omega)
    obtain ⟨d1, d2, d3, d4, d5, d6, d7, d8⟩ := drop_at (r := r) (v := i) (σ := σ)
    obtain ⟨σ', q1, q2, q3, q4, q5⟩ := cClr42 (r := r) q (i + 1) n (z + 1) (dropW r i σ) (by omega) (by omega) (by omega) (fun v hv => by
      by_cases c : v = i
      · rw [c]
        refine ⟨fun k k1 k2 => ?_, d7, d8⟩
        rcases (show k = r + 1 ∨ k = r + 2 ∨ k = r + 3 ∨ k = r + 4 ∨ k = r + 5 ∨ k = r + 6 by omega) with e | e | e | e | e | e
        · rw [e]; exact d1
        · rw [e]; exact d2
        · rw [e]; exact d3
        · rw [e]; exact d4
        · rw [e]; exact d5
        · rw [e]; exact d6
      · obtain ⟨h1, h2, h3⟩ := h v (by omega)
        exact ⟨fun k k1 k2 => by rw [drop_ne c]; exact h1 k k1 k2, by rw [drop_ne c]; exact h2, by rw [drop_ne c]; exact h3⟩)
    refine ⟨σ', ?_, q2, q3, fun k hk => by rw [q4 k hk, drop_row (by omega)], by rw [q5, drop_2]⟩
    rw [← q1, f_X4_clear_42]
    subst hz
    clear h q2
    simp (disch := omega) only [↓reduceIte, gd_t, bd_s, nm_W, nm_I, I_add, I_sub, I_mul, I_neg, I_le_t, I_le_f, I_lt_t, I_lt_f, I_eq_t, I_eq_f, I_inb', I_ix', Int.toNat_natCast, decide_true, decide_false, Bool.not_false, Bool.not_true, if_true, if_false, wi_eq, wi_eq', wi_ne, wi_row, wi_2, N0, N1, N2, N3, N4, N5, N6, N7, N8, N9, N10, N11, N12, N13, N14, N15, N16, N17, N18, N19, N20, N21, N22, N23, N24, N25, N26, N27, N28, N29, N30, N31, N32, N33, N34, N35, N36, N37, N38, N39, N40, N41, N42, N43, N45, N48, N57, N59, N88, N89, N97, N99, N120, N121, N122, N179, N200, N255, N300, N400, N880, N900, N999, N1019, N50000000, N100000000, N1000000000, N2147483647, N2147483648, cd]
theorem cRunClr {σ : Wd} : ∃ σ', f_X4_clear 63 σ = some (0, σ') ∧ (∀ i, i < 8 → σ'.1 63 i = I 0) ∧ (∀ v, v < 5 → (∀ k, 64 ≤ k → k ≤ 69 → σ'.1 k v = I 0) ∧ σ'.1 70 v = I (-2) ∧ σ'.1 71 v = I (-2)) ∧ σ'.1 72 0 = I 0 ∧ (∀ k, k < 63 ∨ 72 < k → σ'.1 k = σ.1 k) ∧ σ'.2 = σ.2 := by
  obtain ⟨σ', q1, q2, q3, q4, q5⟩ := cClr42 (r := 63) 5 0 FU 0 (wi (wi (wi (wi (wi (wi (wi (wi σ 63 0 (I 0)) 63 1 (I 0)) 63 2 (I 0)) 63 3 (I 0)) 63 4 (I 0)) 63 5 (I 0)) 63 6 (I 0)) 63 7 (I 0)) rfl rfl (by decide) (fun v hv => absurd hv (by omega))
  refine ⟨σ', q1, fun i hi => ?_, q2, q3, fun k hk => ?_, by rw [q5]; rfl⟩
  · rw [q4 63 (by omega)]
    rcases (show i = 0 ∨ i = 1 ∨ i = 2 ∨ i = 3 ∨ i = 4 ∨ i = 5 ∨ i = 6 ∨ i = 7 by omega) with c | c | c | c | c | c | c | c <;> subst c <;> simp (disch := omega) only [wi_eq, wi_eq', wi_ne, wi_row, wi_2]
  · have h1 : k ≠ 63 := by omega
    rw [q4 k (by omega), wi_row h1, wi_row h1, wi_row h1, wi_row h1, wi_row h1, wi_row h1, wi_row h1, wi_row h1]
/-! the reference takes a text over -/
theorem tO44 : ∀ (r i n : Nat) (z : Int) (τ : Wd), z = (i : Int) → i + r = 25 → r < n → (∀ j, j < i → τ.1 103 j = τ.1 106 j) → ∃ τ', f_X7_takesOver_44 n (I z) τ = f_X7_takesOver_70 FU (I 0) τ' ∧ (∀ j, j < 25 → τ'.1 103 j = τ.1 106 j) ∧ (∀ k, k ≠ 103 → τ'.1 k = τ.1 k) ∧ τ'.2 = τ.2
  | 0, i, n + 1, z, τ, hz, hi, _, h => by
    refine ⟨τ, ?_, fun j hj => h j (by omega), fun _ _ => rfl, rfl⟩
    rw [f_X7_takesOver_44]
    have e25 : (25 : Int32) = I 25 := rfl
    simp (disch := omega) only [↓reduceIte, gd_t, bd_s, nm_W, nm_I, I_add, I_sub, I_mul, I_neg, I_le_t, I_le_f, I_lt_t, I_lt_f, I_eq_t, I_eq_f, I_inb', I_ix', Int.toNat_natCast, decide_true, decide_false, Bool.not_false, Bool.not_true, if_true, if_false, wi_eq, wi_eq', wi_ne, wi_row, wi_2, N0, N1, N2, N3, N4, N5, N6, N7, N8, N9, N10, N11, N12, N13, N14, N15, N16, N17, N18, N19, N20, N21, N22, N23, N24, N25, N26, N27, N28, N29, N30, N31, N32, N33, N34, N35, N36, N37, N38, N39, N40, N41, N42, N43, N45, N48, N57, N59, N88, N89, N97, N99, N120, N121, N122, N179, N200, N255, N300, N400, N880, N900, N999, N1019, N50000000, N100000000, N1000000000, N2147483647, N2147483648, e25]
  | r + 1, i, n + 1, z, τ, hz, hi, hn, h => by
    have tz : z.toNat = i := by omega
    obtain ⟨τ', q1, q2, q3, q4⟩ := tO44 r (i + 1) n (z + 1) (wi τ 103 i (τ.1 106 i)) (by omega) (by omega) (by omega) (fun j hj => by
      rw [wi_row (show 106 ≠ 103 by decide)]
      by_cases c : j = i
      · rw [c, wi_eq]
      · rw [wi_ne c]; exact h j (by omega))
    refine ⟨τ', ?_, fun j hj => by rw [q2 j hj, wi_row (by decide)], fun k hk => by rw [q3 k hk, wi_row hk], by rw [q4, wi_2]⟩
    rw [← q1, f_X7_takesOver_44]
    clear h q2
    simp (disch := omega) only [↓reduceIte, gd_t, bd_s, nm_W, nm_I, I_add, I_sub, I_mul, I_neg, I_le_t, I_le_f, I_lt_t, I_lt_f, I_eq_t, I_eq_f, I_inb', I_ix', Int.toNat_natCast, decide_true, decide_false, Bool.not_false, Bool.not_true, if_true, if_false, wi_eq, wi_eq', wi_ne, wi_row, wi_2, N0, N1, N2, N3, N4, N5, N6, N7, N8, N9, N10, N11, N12, N13, N14, N15, N16, N17, N18, N19, N20, N21, N22, N23, N24, N25, N26, N27, N28, N29, N30, N31, N32, N33, N34, N35, N36, N37, N38, N39, N40, N41, N42, N43, N45, N48, N57, N59, N88, N89, N97, N99, N120, N121, N122, N179, N200, N255, N300, N400, N880, N900, N999, N1019, N50000000, N100000000, N1000000000, N2147483647, N2147483648, tz]
theorem tO70 : ∀ (r i n : Nat) (z : Int) (τ : Wd), z = (i : Int) → i + r = 30 → r < n → (∀ j, j < i → τ.1 104 j = τ.1 107 j) → ∃ τ', f_X7_takesOver_70 n (I z) τ = f_X7_takesOver_96 FU (I 0) τ' ∧ (∀ j, j < 30 → τ'.1 104 j = τ.1 107 j) ∧ (∀ k, k ≠ 104 → τ'.1 k = τ.1 k) ∧ τ'.2 = τ.2
  | 0, i, n + 1, z, τ, hz, hi, _, h => by
    refine ⟨τ, ?_, fun j hj => h j (by omega), fun _ _ => rfl, rfl⟩
    rw [f_X7_takesOver_70]
    simp (disch := omega) only [↓reduceIte, gd_t, bd_s, nm_W, nm_I, I_add, I_sub, I_mul, I_neg, I_le_t, I_le_f, I_lt_t, I_lt_f, I_eq_t, I_eq_f, I_inb', I_ix', Int.toNat_natCast, decide_true, decide_false, Bool.not_false, Bool.not_true, if_true, if_false, wi_eq, wi_eq', wi_ne, wi_row, wi_2, N0, N1, N2, N3, N4, N5, N6, N7, N8, N9, N10, N11, N12, N13, N14, N15, N16, N17, N18, N19, N20, N21, N22, N23, N24, N25, N26, N27, N28, N29, N30, N31, N32, N33, N34, N35, N36, N37, N38, N39, N40, N41, N42, N43, N45, N48, N57, N59, N88, N89, N97, N99, N120, N121, N122, N179, N200, N255, N300, N400, N880, N900, N999, N1019, N50000000, N100000000, N1000000000, N2147483647, N2147483648]
  | r + 1, i, n + 1, z, τ, hz, hi, hn, h => by
    have tz : z.toNat = i := by omega
    obtain ⟨τ', q1, q2, q3, q4⟩ := tO70 r (i + 1) n (z + 1) (wi τ 104 i (τ.1 107 i)) (by omega) (by omega) (by omega) (fun j hj => by
      rw [wi_row (show 107 ≠ 104 by decide)]
      by_cases c : j = i
      · rw [c, wi_eq]
      · rw [wi_ne c]; exact h j (by omega))
    refine ⟨τ', ?_, fun j hj => by rw [q2 j hj, wi_row (by decide)], fun k hk => by rw [q3 k hk, wi_row hk], by rw [q4, wi_2]⟩
    rw [← q1, f_X7_takesOver_70]
    clear h q2
    simp (disch := omega) only [↓reduceIte, gd_t, bd_s, nm_W, nm_I, I_add, I_sub, I_mul, I_neg, I_le_t, I_le_f, I_lt_t, I_lt_f, I_eq_t, I_eq_f, I_inb', I_ix', Int.toNat_natCast, decide_true, decide_false, Bool.not_false, Bool.not_true, if_true, if_false, wi_eq, wi_eq', wi_ne, wi_row, wi_2, N0, N1, N2, N3, N4, N5, N6, N7, N8, N9, N10, N11, N12, N13, N14, N15, N16, N17, N18, N19, N20, N21, N22, N23, N24, N25, N26, N27, N28, N29, N30, N31, N32, N33, N34, N35, N36, N37, N38, N39, N40, N41, N42, N43, N45, N48, N57, N59, N88, N89, N97, N99, N120, N121, N122, N179, N200, N255, N300, N400, N880, N900, N999, N1019, N50000000, N100000000, N1000000000, N2147483647, N2147483648, tz]
theorem tO96 : ∀ (r i n : Nat) (z : Int) (τ : Wd), z = (i : Int) → i + r = 40 → r < n → (∀ j, j < i → τ.1 105 j = τ.1 108 j) → ∃ τ', f_X7_takesOver_96 n (I z) τ = f_X7_takesOver_122 FU (I 0) τ' ∧ (∀ j, j < 40 → τ'.1 105 j = τ.1 108 j) ∧ (∀ k, k ≠ 105 → τ'.1 k = τ.1 k) ∧ τ'.2 = τ.2
  | 0, i, n + 1, z, τ, hz, hi, _, h => by
    refine ⟨τ, ?_, fun j hj => h j (by omega), fun _ _ => rfl, rfl⟩
    rw [f_X7_takesOver_96]
    simp (disch := omega) only [↓reduceIte, gd_t, bd_s, nm_W, nm_I, I_add, I_sub, I_mul, I_neg, I_le_t, I_le_f, I_lt_t, I_lt_f, I_eq_t, I_eq_f, I_inb', I_ix', Int.toNat_natCast, decide_true, decide_false, Bool.not_false, Bool.not_true, if_true, if_false, wi_eq, wi_eq', wi_ne, wi_row, wi_2, N0, N1, N2, N3, N4, N5, N6, N7, N8, N9, N10, N11, N12, N13, N14, N15, N16, N17, N18, N19, N20, N21, N22, N23, N24, N25, N26, N27, N28, N29, N30, N31, N32, N33, N34, N35, N36, N37, N38, N39, N40, N41, N42, N43, N45, N48, N57, N59, N88, N89, N97, N99, N120, N121, N122, N179, N200, N255, N300, N400, N880, N900, N999, N1019, N50000000, N100000000, N1000000000, N2147483647, N2147483648]
  | r + 1, i, n + 1, z, τ, hz, hi, hn, h => by
    have tz : z.toNat = i := by omega
    obtain ⟨τ', q1, q2, q3, q4⟩ := tO96 r (i + 1) n (z + 1) (wi τ 105 i (τ.1 108 i)) (by omega) (by omega) (by omega) (fun j hj => by
      rw [wi_row (show 108 ≠ 105 by decide)]
      by_cases c : j = i
      · rw [c, wi_eq]
      · rw [wi_ne c]; exact h j (by omega))
    refine ⟨τ', ?_, fun j hj => by rw [q2 j hj, wi_row (by decide)], fun k hk => by rw [q3 k hk, wi_row hk], by rw [q4, wi_2]⟩
    rw [← q1, f_X7_takesOver_96]
    clear h q2
    simp (disch := omega) only [↓reduceIte, gd_t, bd_s, nm_W, nm_I, I_add, I_sub, I_mul, I_neg, I_le_t, I_le_f, I_lt_t, I_lt_f, I_eq_t, I_eq_f, I_inb', I_ix', Int.toNat_natCast, decide_true, decide_false, Bool.not_false, Bool.not_true, if_true, if_false, wi_eq, wi_eq', wi_ne, wi_row, wi_2, N0, N1, N2, N3, N4, N5, N6, N7, N8, N9, N10, N11, N12, N13, N14, N15, N16, N17, N18, N19, N20, N21, N22, N23, N24, N25, N26, N27, N28, N29, N30, N31, N32, N33, N34, N35, N36, N37, N38, N39, N40, N41, N42, N43, N45, N48, N57, N59, N88, N89, N97, N99, N120, N121, N122, N179, N200, N255, N300, N400, N880, N900, N999, N1019, N50000000, N100000000, N1000000000, N2147483647, N2147483648, tz]
theorem tO122 : ∀ (r i n : Nat) (z : Int) (τ : Wd), z = (i : Int) → i + r = 179 → r < n → (∀ j, j < i → τ.1 112 j = I 0) → ∃ τ', f_X7_takesOver_122 n (I z) τ = f_X7_takesOver_155 FU (I 0) (wi τ' 112 35 (τ.1 102 16)) ∧ (∀ j, j < 179 → τ'.1 112 j = I 0) ∧ (∀ k, k ≠ 112 → τ'.1 k = τ.1 k) ∧ τ'.2 = τ.2
  | 0, i, n + 1, z, τ, hz, hi, _, h => by
    have w35 : Int.toNat 35 = 35 := rfl
    refine ⟨τ, ?_, fun j hj => h j (by omega), fun _ _ => rfl, rfl⟩
    rw [f_X7_takesOver_122]
    clear h
    simp (disch := omega) only [↓reduceIte, gd_t, bd_s, nm_W, nm_I, I_add, I_sub, I_mul, I_neg, I_le_t, I_le_f, I_lt_t, I_lt_f, I_eq_t, I_eq_f, I_inb', I_ix', Int.toNat_natCast, decide_true, decide_false, Bool.not_false, Bool.not_true, if_true, if_false, wi_eq, wi_eq', wi_ne, wi_row, wi_2, N0, N1, N2, N3, N4, N5, N6, N7, N8, N9, N10, N11, N12, N13, N14, N15, N16, N17, N18, N19, N20, N21, N22, N23, N24, N25, N26, N27, N28, N29, N30, N31, N32, N33, N34, N35, N36, N37, N38, N39, N40, N41, N42, N43, N45, N48, N57, N59, N88, N89, N97, N99, N120, N121, N122, N179, N200, N255, N300, N400, N880, N900, N999, N1019, N50000000, N100000000, N1000000000, N2147483647, N2147483648, w35]
  | r + 1, i, n + 1, z, τ, hz, hi, hn, h => by
    have tz : z.toNat = i := by omega
    obtain ⟨τ', q1, q2, q3, q4⟩ := tO122 r (i + 1) n (z + 1) (wi τ 112 i (I 0)) (by omega) (by omega) (by omega) (fun j hj => by
      by_cases c : j = i
      · rw [c, wi_eq]
      · rw [wi_ne c]; exact h j (by omega))
    refine ⟨τ', ?_, q2, fun k hk => by rw [q3 k hk, wi_row hk], by rw [q4, wi_2]⟩
    rw [wi_row (show 102 ≠ 112 by decide)] at q1
    rw [← q1, f_X7_takesOver_122]
    clear h q2
    simp (disch := omega) only [↓reduceIte, gd_t, bd_s, nm_W, nm_I, I_add, I_sub, I_mul, I_neg, I_le_t, I_le_f, I_lt_t, I_lt_f, I_eq_t, I_eq_f, I_inb', I_ix', Int.toNat_natCast, decide_true, decide_false, Bool.not_false, Bool.not_true, if_true, if_false, wi_eq, wi_eq', wi_ne, wi_row, wi_2, N0, N1, N2, N3, N4, N5, N6, N7, N8, N9, N10, N11, N12, N13, N14, N15, N16, N17, N18, N19, N20, N21, N22, N23, N24, N25, N26, N27, N28, N29, N30, N31, N32, N33, N34, N35, N36, N37, N38, N39, N40, N41, N42, N43, N45, N48, N57, N59, N88, N89, N97, N99, N120, N121, N122, N179, N200, N255, N300, N400, N880, N900, N999, N1019, N50000000, N100000000, N1000000000, N2147483647, N2147483648, tz]
theorem tO180 {K : Int32 → Wd → Option (Int32 × Wd)} {v l : Nat} (hv : v < 5) (hl : l ≤ 6) : ∀ (r i n : Nat) (z : Int) (τ : Wd), z = (i : Int) → i + r = l → r < n → τ.1 103 (5 * v + 4) = I (l : Int) → (∀ j, j < i → τ.1 112 (6 * v + j) = τ.1 109 (6 * v + j)) →
    ∃ τ', f_X7_takesOver_180 K n (I (v : Int)) (I z) τ = K (I ((v : Int) + 1)) τ' ∧ (∀ j, j < l → τ'.1 112 (6 * v + j) = τ.1 109 (6 * v + j)) ∧ (∀ i, i < 8 → i ≠ 5 → i ≠ 6 → τ'.1 112 (48 + 8 * v + i) = I 0) ∧ τ'.1 112 (48 + 8 * v + 5) = I (-2) ∧ τ'.1 112 (48 + 8 * v + 6) = I (-2)
      ∧ (∀ i, i < 6 * v ∨ 6 * v + l ≤ i → i < 48 + 8 * v ∨ 56 + 8 * v ≤ i → τ'.1 112 i = τ.1 112 i) ∧ (∀ k, k ≠ 112 → τ'.1 k = τ.1 k) ∧ τ'.2 = τ.2
  | 0, i, n + 1, z, τ, hz, hi, _, h4, h => by
    have e7 := levels7 (σ := τ) hv
    rw [h4] at e7
    obtain ⟨τ', c1, c2, c3, c4, c5, c6, c7⟩ := rClr (τ := τ) hv
    refine ⟨τ', ?_, fun j hj => by rw [c5 _ (by omega)]; exact h j (by omega), c2, c3, c4, fun i _ h2 => c5 i h2, c6, c7⟩
    rw [f_X7_takesOver_180]
    clear h c2
    simp (disch := omega) only [↓reduceIte, gd_t, bd_s, nm_W, nm_I, I_add, I_sub, I_mul, I_neg, I_le_t, I_le_f, I_lt_t, I_lt_f, I_eq_t, I_eq_f, I_inb', I_ix', Int.toNat_natCast, decide_true, decide_false, Bool.not_false, Bool.not_true, if_true, if_false, wi_eq, wi_eq', wi_ne, wi_row, wi_2, N0, N1, N2, N3, N4, N5, N6, N7, N8, N9, N10, N11, N12, N13, N14, N15, N16, N17, N18, N19, N20, N21, N22, N23, N24, N25, N26, N27, N28, N29, N30, N31, N32, N33, N34, N35, N36, N37, N38, N39, N40, N41, N42, N43, N45, N48, N57, N59, N88, N89, N97, N99, N120, N121, N122, N179, N200, N255, N300, N400, N880, N900, N999, N1019, N50000000, N100000000, N1000000000, N2147483647, N2147483648, e7, c1]
  | r + 1, i, n + 1, z, τ, hz, hi, hn, h4, h => by
    have e7 := levels7 (σ := τ) hv
    rw [h4] at e7
    have t1 : ((6 : Int) * (v : Int) + z).toNat = 6 * v + i := by omega
    have t2 : ((0 : Int) + 6 * (v : Int) + z).toNat = 6 * v + i := by omega
    obtain ⟨τ', q1, q2, q3, q4, q5, q6, q7, q8⟩ := tO180 (K := K) hv hl r (i + 1) n (z + 1) (wi τ 112 (6 * v + i) (τ.1 109 (6 * v + i))) (by omega) (by omega) (by omega) (by rw [wi_row (by decide)]; exact h4) (fun j hj => by
      rw [wi_row (show 109 ≠ 112 by decide)]
      by_cases c : j = i
      · rw [c, wi_eq]
      · rw [wi_ne (by omega)]; exact h j (by omega))
    refine ⟨τ', ?_, fun j hj => by rw [q2 j hj, wi_row (by decide)], q3, q4, q5, fun i g1 g2 => by rw [q6 i g1 g2, wi_ne (by omega)], fun k hk => by rw [q7 k hk, wi_row hk], by rw [q8, wi_2]⟩
    rw [← q1, f_X7_takesOver_180]
    clear h q2 q3
    simp (disch := omega) only [↓reduceIte, gd_t, bd_s, nm_W, nm_I, I_add, I_sub, I_mul, I_neg, I_le_t, I_le_f, I_lt_t, I_lt_f, I_eq_t, I_eq_f, I_inb', I_ix', Int.toNat_natCast, decide_true, decide_false, Bool.not_false, Bool.not_true, if_true, if_false, wi_eq, wi_eq', wi_ne, wi_row, wi_2, N0, N1, N2, N3, N4, N5, N6, N7, N8, N9, N10, N11, N12, N13, N14, N15, N16, N17, N18, N19, N20, N21, N22, N23, N24, N25, N26, N27, N28, N29, N30, N31, N32, N33, N34, N35, N36, N37, N38, N39, N40, N41, N42, N43, N45, N48, N57, N59, N88, N89, N97, N99, N120, N121, N122, N179, N200, N255, N300, N400, N880, N900, N999, N1019, N50000000, N100000000, N1000000000, N2147483647, N2147483648, e7, t1, t2]
/-- a venue of the text, taken over -/
def TD (τ : Wd) (τ0 : Wd) (lv : Nat → Nat) (w : Nat) : Prop := τ.1 112 (30 + w) = τ0.1 110 w ∧ (∀ j, j < lv w → τ.1 112 (6 * w + j) = τ0.1 109 (6 * w + j)) ∧ (∀ i, i < 8 → i ≠ 5 → i ≠ 6 → τ.1 112 (48 + 8 * w + i) = I 0) ∧ τ.1 112 (48 + 8 * w + 5) = I (-2) ∧ τ.1 112 (48 + 8 * w + 6) = I (-2)
theorem tO155 {V : Nat} {lv : Nat → Nat} {τ0 : Wd} (hV : V ≤ 5) (hl : ∀ v, v < V → lv v ≤ 6) : ∀ (r i n : Nat) (z : Int) (τ : Wd), z = (i : Int) → i + r = V → r < n → τ.1 102 14 = I (V : Int) → (∀ v, v < V → τ.1 103 (5 * v + 4) = I (lv v : Int)) → τ.1 109 = τ0.1 109 → τ.1 110 = τ0.1 110 → (∀ w, w < i → TD τ τ0 lv w) →
    ∃ τ', f_X7_takesOver_155 n (I z) τ = some (0, τ') ∧ (∀ w, w < V → TD τ' τ0 lv w) ∧ (∀ j, 35 ≤ j → j < 48 ∨ 88 ≤ j → τ'.1 112 j = τ.1 112 j) ∧ (∀ k, k ≠ 112 → τ'.1 k = τ.1 k) ∧ τ'.2 = τ.2
  | 0, i, n + 1, z, τ, hz, hi, _, h14, h4, h9, h10, h => by
    refine ⟨τ, ?_, fun w hw => h w (by omega), fun _ _ _ => rfl, fun _ _ => rfl, rfl⟩
    rw [f_X7_takesOver_155]
    clear h h4
    simp (disch := omega) only [↓reduceIte, gd_t, bd_s, nm_W, nm_I, I_add, I_sub, I_mul, I_neg, I_le_t, I_le_f, I_lt_t, I_lt_f, I_eq_t, I_eq_f, I_inb', I_ix', Int.toNat_natCast, decide_true, decide_false, Bool.not_false, Bool.not_true, if_true, if_false, wi_eq, wi_eq', wi_ne, wi_row, wi_2, N0, N1, N2, N3, N4, N5, N6, N7, N8, N9, N10, N11, N12, N13, N14, N15, N16, N17, N18, N19, N20, N21, N22, N23, N24, N25, N26, N27, N28, N29, N30, N31, N32, N33, N34, N35, N36, N37, N38, N39, N40, N41, N42, N43, N45, N48, N57, N59, N88, N89, N97, N99, N120, N121, N122, N179, N200, N255, N300, N400, N880, N900, N999, N1019, N50000000, N100000000, N1000000000, N2147483647, N2147483648, h14]
  | r + 1, i, n + 1, z, τ, hz, hi, hn, h14, h4, h9, h10, h => by
    have tz : z.toNat = i := by omega
    have t1 : ((30 : Int) + z).toNat = 30 + i := by omega
    have l6 := hl i (by omega)
    obtain ⟨τ1, a1, a2, a3, a4, a5, a6, a7, a8⟩ := tO180 (K := f_X7_takesOver_155 n) (v := i) (l := lv i) (by omega) l6 (lv i) 0 FU 0 (wi τ 112 (30 + i) (τ.1 110 i)) rfl (by omega) (by show _ < 6000; omega) (by rw [wi_row (by decide)]; exact h4 i (by omega)) (fun j hj => absurd hj (by omega))
    have hTD : ∀ w, w < i + 1 → TD τ1 τ0 lv w := fun w hw => by
      by_cases c : w = i
      · subst c
        refine ⟨?_, fun j hj => ?_, a3, a4, a5⟩
        · rw [a6 _ (by omega) (by omega), wi_eq, h10]
        · rw [a2 j hj, wi_row (by decide), h9]
      · obtain ⟨b1, b2, b3, b4, b5⟩ := h w (by omega)
        have lw := hl w (by omega)
        refine ⟨?_, fun j hj => ?_, fun j j1 j2 j3 => ?_, ?_, ?_⟩
        · rw [a6 _ (by omega) (by omega), wi_ne (by omega)]; exact b1
        · rw [a6 _ (by omega) (by omega), wi_ne (by omega)]; exact b2 j hj
        · rw [a6 _ (by omega) (by omega), wi_ne (by omega)]; exact b3 j j1 j2 j3
        · rw [a6 _ (by omega) (by omega), wi_ne (by omega)]; exact b4
        · rw [a6 _ (by omega) (by omega), wi_ne (by omega)]; exact b5
    obtain ⟨τ', q1, q2, q3, q4, q5⟩ := tO155 hV hl r (i + 1) n (z + 1) τ1 (by omega) (by omega) (by omega) (by rw [a7 102 (by decide), wi_row (by decide)]; exact h14) (fun v hv => by rw [a7 103 (by decide), wi_row (by decide)]; exact h4 v hv) (by rw [a7 109 (by decide), wi_row (by decide)]; exact h9) (by rw [a7 110 (by decide), wi_row (by decide)]; exact h10) hTD
    refine ⟨τ', ?_, q2, fun j j1 j2 => by rw [q3 j j1 j2, a6 j (by omega) (by omega), wi_ne (by omega)], fun k hk => by rw [q4 k hk, a7 k hk, wi_row hk], by rw [q5, a8, wi_2]⟩
    rw [← q1, f_X7_takesOver_155]
    rw [← hz] at a1
    clear h h4 q2 hTD a2 a3
    simp (disch := omega) only [↓reduceIte, gd_t, bd_s, nm_W, nm_I, I_add, I_sub, I_mul, I_neg, I_le_t, I_le_f, I_lt_t, I_lt_f, I_eq_t, I_eq_f, I_inb', I_ix', Int.toNat_natCast, decide_true, decide_false, Bool.not_false, Bool.not_true, if_true, if_false, wi_eq, wi_eq', wi_ne, wi_row, wi_2, N0, N1, N2, N3, N4, N5, N6, N7, N8, N9, N10, N11, N12, N13, N14, N15, N16, N17, N18, N19, N20, N21, N22, N23, N24, N25, N26, N27, N28, N29, N30, N31, N32, N33, N34, N35, N36, N37, N38, N39, N40, N41, N42, N43, N45, N48, N57, N59, N88, N89, N97, N99, N120, N121, N122, N179, N200, N255, N300, N400, N880, N900, N999, N1019, N50000000, N100000000, N1000000000, N2147483647, N2147483648, h14, tz, t1, a1]
end
section
/-! PURE: a text taken over, on both sides -/
theorem pu_0 {f : Nat → Int} : ∀ (r v : Nat), (∀ w, f w = 0) → pu f r v = 0
  | 0, _, _ => rfl
  | r + 1, v, h => by
    show f v + pu f r (v + 1) = 0
    rw [h v, pu_0 r (v + 1) h]
    rfl
theorem tO_eq {τ : Wd} {x y v e : Int32} (h17 : τ.1 102 17 = x) (h18 : τ.1 102 18 = y) (h19 : τ.1 102 19 = v) (h20 : τ.1 102 20 = e) : f_X7_takesOver τ = f_X7_takesOver_44 FU (I 0) (wi (wi (wi (wi (wi (wi τ 102 21 (I 1)) 102 25 (I 0)) 102 12 x) 102 13 y) 102 14 v) 102 15 e) := by
  subst h17 h18 h19 h20
  unfold f_X7_takesOver
  rw [show isb (1 : Int32) = true from rfl, gd_t, nm_W, show isb (0 : Int32) = true from rfl, gd_t, nm_W, nm_W, nm_W, nm_W, nm_W]
  simp (disch := omega) only [wi_eq, wi_eq', wi_ne, wi_row, wi_2]
  rfl
theorem rOver {m V E : Nat} {σ τ : Wd} {W p L : Int} {d : MD} {dl et : Nat → Int} (hP : PRD m σ τ W p L V E d dl et) (hW : W ≠ 0) :
    ∃ τ', f_X7_takesOver τ = some (0, τ') ∧ RV τ' V d ∧ (τ'.1 102 12 = I p ∧ τ'.1 102 13 = I L ∧ τ'.1 102 15 = I (E : Int) ∧ τ'.1 102 21 = I 1 ∧ τ'.1 102 25 = I 0 ∧ τ'.1 112 35 = I W) ∧ (∀ v, v < V → τ'.1 103 (5 * v + 3) = I (dl v)) ∧ (∀ j, j < 40 → τ'.1 105 j = τ.1 108 j) ∧ (∀ w, w < V → TD τ' τ d.lv w) ∧ (∀ j, 36 ≤ j → j < 48 ∨ (88 ≤ j ∧ j < 179) → τ'.1 112 j = I 0)
      ∧ (∀ k, k ≠ 102 → k < 103 ∨ 105 < k → k ≠ 112 → τ'.1 k = τ.1 k) ∧ (∀ i, i < 12 ∨ 15 < i → i ≠ 21 → i ≠ 25 → τ'.1 102 i = τ.1 102 i) ∧ τ'.2 = τ.2 := by
  obtain ⟨⟨p0, p16, pW0, pW1, pW2⟩, pp, ⟨q1, q2, q3⟩, -, q5, -, q8⟩ := hP
  obtain ⟨⟨-, p17, -⟩, ⟨-, p18, -⟩⟩ := pp hW
  obtain ⟨τ0, hτ0⟩ : ∃ s, s = wi (wi (wi (wi (wi (wi τ 102 21 (I 1)) 102 25 (I 0)) 102 12 (I p)) 102 13 (I L)) 102 14 (I (V : Int))) 102 15 (I (E : Int)) := ⟨_, rfl⟩
  have r0 : ∀ k, k ≠ 102 → τ0.1 k = τ.1 k := fun k h => by rw [hτ0, wi_row h, wi_row h, wi_row h, wi_row h, wi_row h, wi_row h]
  have v0 : ∀ i, i < 12 ∨ 15 < i → i ≠ 21 → i ≠ 25 → τ0.1 102 i = τ.1 102 i := fun i h1 h2 h3 => by rw [hτ0, wi_ne (by omega), wi_ne (by omega), wi_ne (by omega), wi_ne (by omega), wi_ne h3, wi_ne h2]
  obtain ⟨τ1, a1, a2, a3, a4⟩ := tO44 25 0 FU 0 τ0 rfl rfl (by decide) (fun j hj => absurd hj (by omega))
  obtain ⟨τ2, b1, b2, b3, b4⟩ := tO70 30 0 FU 0 τ1 rfl rfl (by decide) (fun j hj => absurd hj (by omega))
  obtain ⟨τ3, c1, c2, c3, c4⟩ := tO96 40 0 FU 0 τ2 rfl rfl (by decide) (fun j hj => absurd hj (by omega))
  obtain ⟨τ4, d1, d2, d3, d4⟩ := tO122 179 0 FU 0 τ3 rfl rfl (by decide) (fun j hj => absurd hj (by omega))
  obtain ⟨τ5, hτ5⟩ : ∃ s, s = wi τ4 112 35 (τ3.1 102 16) := ⟨_, rfl⟩
  have r5 : ∀ k, k ≠ 112 → τ5.1 k = τ3.1 k := fun k h => by rw [hτ5, wi_row h, d3 k h]
  have f2 : ∀ i, τ5.1 102 i = τ0.1 102 i := fun i => by rw [r5 102 (by decide), c3 102 (by decide), b3 102 (by decide), a3 102 (by decide)]
  have f103 : ∀ j, j < 25 → τ5.1 103 j = τ.1 106 j := fun j hj => by rw [r5 103 (by decide), c3 103 (by decide), b3 103 (by decide), a2 j hj, r0 106 (by decide)]
  have f104 : ∀ j, j < 30 → τ5.1 104 j = τ.1 107 j := fun j hj => by rw [r5 104 (by decide), c3 104 (by decide), b2 j hj, a3 107 (by decide), r0 107 (by decide)]
  have f105 : ∀ j, j < 40 → τ5.1 105 j = τ.1 108 j := fun j hj => by rw [r5 105 (by decide), c2 j hj, b3 108 (by decide), a3 108 (by decide), r0 108 (by decide)]
  have fo : ∀ k, k ≠ 102 → k < 103 ∨ 105 < k → k ≠ 112 → τ5.1 k = τ.1 k := fun k h1 h2 h3 => by rw [r5 k h3, c3 k (by omega), b3 k (by omega), a3 k (by omega), r0 k h1]
  have V5 := q1.1
  have l6 : ∀ v, v < V → d.lv v ≤ 6 := fun v hv => (q1.2 v hv).2.2.2.2.1
  obtain ⟨τ', e1, e2, e3, e4, e5⟩ := tO155 (V := V) (lv := d.lv) (τ0 := τ) V5 l6 V 0 FU 0 τ5 rfl (by omega) (by show _ < 6000; omega) (by rw [f2, hτ0, wi_ne (by decide), wi_eq]) (fun v hv => by rw [f103 _ (by omega)]; exact (q5 v hv).2.2.2.2.2.1.2) (fo 109 (by decide) (by decide) (by decide)) (fo 110 (by decide) (by decide) (by decide)) (fun w hw => absurd hw (by omega))
  have g2 : ∀ i, τ'.1 102 i = τ0.1 102 i := fun i => by rw [e4 102 (by decide), f2]
  refine ⟨τ', ?_, ⟨?_, fun v hv => ?_⟩, ⟨?_, ?_, ?_, ?_, ?_, ?_⟩, fun v hv => ?_, fun j hj => ?_, e2, fun j j1 j2 => ?_, fun k k1 k2 k3 => by rw [e4 k k3, fo k k1 k2 k3], fun i i1 i2 i3 => by rw [g2, v0 i i1 i2 i3], ?_⟩
  · have key := tO_eq p17 p18 q3 q8.2.2.1
    rw [← hτ0] at key
    rw [key, a1, b1, c1, d1, ← hτ5, e1]
  · rw [g2, hτ0, wi_ne (by decide), wi_eq]
  · obtain ⟨y1, y2, y3, y4, y5, y6, y7⟩ := q5 v hv
    obtain ⟨t1, t2, -⟩ := e2 v hv
    have lv := l6 v hv
    refine ⟨?_, ?_, ?_, ?_, ?_, fun k hk => ⟨?_, ?_⟩⟩
    · rw [e4 103 (by decide), f103 _ (by omega)]; exact y1.2
    · rw [e4 103 (by decide), f103 _ (by omega)]; exact y2.2
    · rw [t1]; exact y3.2
    · rw [e4 103 (by decide), f103 _ (by omega)]; exact y4.2
    · rw [e4 103 (by decide), f103 _ (by omega)]; exact y6.2
    · have hk : k < d.lv v := hk
      rw [e4 104 (by decide), f104 _ (by omega)]; exact (y7 k hk).1.2
    · rw [t2 k hk]; exact (y7 k hk).2.2
  · rw [g2, hτ0, wi_ne (by decide), wi_ne (by decide), wi_ne (by decide), wi_eq]
  · rw [g2, hτ0, wi_ne (by decide), wi_ne (by decide), wi_eq]
  · rw [g2, hτ0, wi_eq]
  · rw [g2, hτ0, wi_ne (by decide), wi_ne (by decide), wi_ne (by decide), wi_ne (by decide), wi_ne (by decide), wi_eq]
  · rw [g2, hτ0, wi_ne (by decide), wi_ne (by decide), wi_ne (by decide), wi_ne (by decide), wi_eq]
  · rw [e3 35 (by decide) (by decide), hτ5, wi_eq, c3 102 (by decide), b3 102 (by decide), a3 102 (by decide), v0 16 (by decide) (by decide) (by decide)]; exact p16
  · rw [e4 103 (by decide), f103 _ (by omega)]; exact (q5 v hv).2.2.2.2.1.2.1
  · rw [e4 105 (by decide), f105 j hj]
  · rw [e3 j (by omega) (by omega), hτ5, wi_ne (by omega), d2 j (by omega)]
  · rw [e5, hτ5, wi_2, d4, c4, b4, a4, hτ0]; rfl
theorem taken_ok {m V E : Nat} {σ τ σ' τ' : Wd} {W p L : Int} {d : MD} {dl et : Nat → Int} (hm : 10 < m) (hP : PRD m σ τ W p L V E d dl et) (hW : W ≠ 0)
    (c1 : ∀ k, m ≤ k → k ≤ m + 12 → σ'.1 k = σ.1 k) (h63 : ∀ i, i < 8 → σ'.1 63 i = I 0) (hp : ∀ v, v < 5 → (∀ k, 64 ≤ k → k ≤ 69 → σ'.1 k v = I 0) ∧ σ'.1 70 v = I (-2) ∧ σ'.1 71 v = I (-2)) (h72 : σ'.1 72 0 = I 0)
    (rv : RV τ' V d) (rc : τ'.1 102 12 = I p ∧ τ'.1 102 13 = I L ∧ τ'.1 102 15 = I (E : Int) ∧ τ'.1 102 21 = I 1 ∧ τ'.1 102 25 = I 0 ∧ τ'.1 112 35 = I W) (rd : ∀ v, v < V → τ'.1 103 (5 * v + 3) = I (dl v)) (re : ∀ j, j < 40 → τ'.1 105 j = τ.1 108 j) (rt : ∀ w, w < V → TD τ' τ d.lv w) (r0 : ∀ j, 36 ≤ j → j < 48 ∨ (88 ≤ j ∧ j < 179) → τ'.1 112 j = I 0) :
    QQ m 63 σ' τ' V E d p L W dl (fun _ => 0) et false 0 0 0 (fun _ => 0) (fun _ => 0) (fun _ => 0) := by
  obtain ⟨⟨p0, p16, pW0, pW1, pW2⟩, pp, ⟨q1, q2, q3⟩, -, q5, ⟨q6, q7⟩, ⟨x1, x2, x3, x4, x5⟩⟩ := hP
  obtain ⟨⟨pp1, -, pp2, pp3⟩, ⟨pl1, -, pl2, pl3⟩⟩ := pp hW
  have V5 := q1.1
  refine ⟨⟨q1, ⟨?_, fun v hv => ?_⟩, rv, ⟨?_, rc.1, by omega, pp3⟩, ⟨?_, rc.2.1, by omega, pl3, fun _ => pl2⟩, ⟨?_, rc.2.2.2.2.2, pW0, pW1⟩, fun v hv => ?_, fun v hv => ⟨?_, r0 _ (by omega) (by omega), (show (0 : Int) ≤ 0 from Int.le_refl _), (show (0 : Int) ≤ 120 by decide)⟩⟩, ⟨x1, ?_, rc.2.2.1, fun i hi => ?_, x5⟩, ?_, ⟨0, h63 7 (by decide), Nat.zero_le _, fun i hi => absurd hi (by omega), fun i _ hi => ?_⟩, fun w hw => ?_, ⟨0, fun i => i, by decide, h72, r0 88 (by decide) (by decide), fun i hi => absurd hi (by omega), fun i _ hi => absurd hi (by omega)⟩, ⟨fun _ _ => Int.le_refl _, by rw [pu_0 _ _ (fun _ => rfl)]; exact Int.le_refl _⟩, ⟨h63 6 (by decide), by decide, by decide⟩, fun _ => rfl, fun _ => ⟨fun _ _ => rfl, fun q => by cases q⟩⟩
  · rw [c1 m (by omega) (by omega)]; exact q2
  · obtain ⟨y1, y2, y3, y4, y5, y6, y7⟩ := q5 v hv
    rw [c1 (m + 1) (by omega) (by omega), c1 (m + 2) (by omega) (by omega), c1 (m + 3) (by omega) (by omega), c1 (m + 4) (by omega) (by omega), c1 (m + 6) (by omega) (by omega), c1 (m + 8) (by omega) (by omega), c1 (m + 9) (by omega) (by omega)]
    exact ⟨y1.1, y2.1, y3.1, y4.1, y6.1, fun k hk => ⟨(y7 k hk).1.1, (y7 k hk).2.1⟩⟩
  · rw [c1 m (by omega) (by omega)]; exact pp1
  · rw [c1 m (by omega) (by omega)]; exact pl1
  · rw [c1 m (by omega) (by omega)]; exact p0
  · obtain ⟨y1, y2, y3, y4, y5, y6, y7⟩ := q5 v hv
    rw [c1 (m + 5) (by omega) (by omega)]
    exact ⟨y5.1, rd v hv, y5.2.2.1, y5.2.2.2⟩
  · rw [c1 (m + 7) (by omega) (by omega)]; exact q7 v (by omega)
  · rw [c1 m (by omega) (by omega)]; exact x2
  · rw [c1 (m + 10) (by omega) (by omega), c1 (m + 11) (by omega) (by omega), c1 (m + 12) (by omega) (by omega), re _ (by omega), re _ (by omega), re _ (by omega), re _ (by omega)]
    exact x4 i hi
  · refine ⟨⟨h63 0 (by decide), r0 36 (by decide) (by decide)⟩, ⟨h63 1 (by decide), r0 37 (by decide) (by decide), by decide, by decide⟩, ⟨h63 2 (by decide), r0 38 (by decide) (by decide), by decide, by decide⟩, ?_, ?_, ?_, ?_⟩
    · rw [r0 39 (by decide) (by decide), h63 3 (by decide)]
    · rw [r0 40 (by decide) (by decide), h63 4 (by decide)]
    · rw [r0 41 (by decide) (by decide), h63 5 (by decide)]
    · rw [r0 42 (by decide) (by decide), h63 6 (by decide)]
  · obtain ⟨a, k, z, -, -, -, -, y1, -⟩ := x4 i hi
    omega
  · obtain ⟨h1, h2, h3⟩ := hp w (by omega)
    obtain ⟨-, -, t3, t4, t5⟩ := rt w hw
    have u0 := t3 0 (by decide) (by decide) (by decide)
    have u1 := t3 1 (by decide) (by decide) (by decide)
    have u2 := t3 2 (by decide) (by decide) (by decide)
    have u3 := t3 3 (by decide) (by decide) (by decide)
    have u4 := t3 4 (by decide) (by decide) (by decide)
    have u7 := t3 7 (by decide) (by decide) (by decide)
    refine ⟨⟨h1 64 (by decide) (by decide), ?_⟩, ⟨h1 65 (by decide) (by decide), ?_⟩, ⟨h1 66 (by decide) (by decide), ?_⟩, ?_, ⟨0, by decide, by decide, h1 69 (by decide) (by decide), ?_⟩, ⟨-2, -2, h2, ?_, by decide, by decide, fun q => absurd rfl q, ?_, by decide, by decide, fun (q : (0 : Int) = 1 ∨ (0 : Int) = 2) => by omega, fun (q : (0 : Int) = 1) => absurd q (by decide), fun _ => ⟨h3, rfl⟩⟩, fun (q : (0 : Int) = 1 ∨ (0 : Int) = 2) => by omega, (show (0 : Int) ≤ 120 by decide), Or.inl ⟨rfl, rfl, rfl⟩⟩
    · exact u0
    · rw [show 49 + 8 * w = 48 + 8 * w + 1 by omega]; exact u1
    · rw [show 50 + 8 * w = 48 + 8 * w + 2 by omega]; exact u2
    · rw [show 51 + 8 * w = 48 + 8 * w + 3 by omega, u3]; exact (h1 68 (by decide) (by decide)).symm
    · rw [show 52 + 8 * w = 48 + 8 * w + 4 by omega]; exact u4
    · rw [show 53 + 8 * w = 48 + 8 * w + 5 by omega]; exact t4
    · rw [show 54 + 8 * w = 48 + 8 * w + 6 by omega]; exact t5
end
section
/-! PURE: split -/
theorem wr_1 {σ : Wd} {k j x : Nat} : (wr σ k j x).1 = σ.1 := rfl
theorem wr_21 {σ : Wd} {k j x : Nat} : (wr σ k j x).2.1 = σ.2.1 := rfl
theorem wr_eq {σ : Wd} {k j x : Nat} : (wr σ k j x).2.2 k j = x := by
  show (if k = k then (fun i => if i = j then x else σ.2.2 k i) else σ.2.2 k) j = x
  rw [if_pos rfl]
  exact if_pos rfl
theorem wr_ne {σ : Wd} {k j i x : Nat} (h : i ≠ j) : (wr σ k j x).2.2 k i = σ.2.2 k i := by
  show (if k = k then (fun i => if i = j then x else σ.2.2 k i) else σ.2.2 k) i = σ.2.2 k i
  rw [if_pos rfl]
  exact if_neg h
theorem read_ok {m N : Nat} {σ τ : Wd} (hm : 10 < m) (hN : N ≤ 900) (hb : ∀ i, i < N → τ.1 115 i = σ.1 2 i ∧ -128 ≤ (σ.1 2 i).toInt ∧ (σ.1 2 i).toInt ≤ 127) (e28 : τ.1 102 28 = I (N : Int)) (e29 : τ.1 102 29 = I 0) (e33 : τ.1 102 33 = I 0) :
    (∃ (σ' τ' : Wd), f_X5_readInto m (I (N : Int)) σ = some (I 0, σ') ∧ f_X7_readAll τ = some (0, τ') ∧ BD σ' τ' ∧ LC m σ σ' ∧ LF τ τ')
    ∨ (∃ (σ' τ' : Wd) (W p L : Int) (V E : Nat) (d : MD) (dl et : Nat → Int), f_X5_readInto m (I (N : Int)) σ = some (I 1, σ') ∧ f_X7_readAll τ = some (0, τ') ∧ PRD m σ' τ' W p L V E d dl et ∧ (W ≠ 0 ∧ 0 < V) ∧ (τ'.1 102 33 = I 0 ∧ σ'.1 1 1 = I 0) ∧ LC m σ σ' ∧ LF τ τ') := by
  obtain ⟨σ1, a1, a2, a3, a4, a5⟩ := cClear (m := m) (σ := σ)
  obtain ⟨σ2, hσ2⟩ : ∃ s, s = wi (wi (wi (wi σ1 1 1 (I 0)) 1 2 (I (-1))) 1 6 (I 0)) 1 5 (I (N : Int)) := ⟨_, rfl⟩
  obtain ⟨τ2, hτ2⟩ : ∃ s, s = wi (wi (wi τ 102 16 (I 0)) 102 19 (I 0)) 102 20 (I 0) := ⟨_, rfl⟩
  have c2 : ∀ k, k ≠ 1 → σ2.1 k = σ1.1 k := fun k h => by rw [hσ2, wi_row h, wi_row h, wi_row h, wi_row h]
  have d2 : ∀ k, k ≠ 102 → τ2.1 k = τ.1 k := fun k h => by rw [hτ2, wi_row h, wi_row h, wi_row h]
  have hB : BY σ2 τ2 N (fun i => (σ.1 2 i).toInt) := by
    refine ⟨hN, fun i hi => ?_⟩
    rw [c2 2 (by decide), a4 2 (by omega) (by omega) (by omega), d2 115 (by decide), (hb i hi).1, I_of]
    exact ⟨rfl, rfl, (hb i hi).2⟩
  have hS : ST σ2 τ2 N 0 := by
    refine ⟨⟨?_, ?_, ?_⟩, ?_, ?_, ?_, Nat.zero_le _⟩
    · rw [hσ2]; simp (disch := omega) only [wi_eq, wi_eq', wi_ne, wi_row, wi_2]
    · rw [hσ2]; simp (disch := omega) only [wi_eq, wi_eq', wi_ne, wi_row, wi_2]; rfl
    · rw [hσ2]; simp (disch := omega) only [wi_eq, wi_eq', wi_ne, wi_row, wi_2]
    · rw [hτ2]; simp (disch := omega) only [wi_eq, wi_eq', wi_ne, wi_row, wi_2]; exact e28
    · rw [hτ2]; simp (disch := omega) only [wi_eq, wi_eq', wi_ne, wi_row, wi_2]; exact e29
    · rw [hτ2]; simp (disch := omega) only [wi_eq, wi_eq', wi_ne, wi_row, wi_2]; exact e33
  have hP : PRD m σ2 τ2 0 0 0 0 0 ((fun _ => 0, fun _ => 0, fun _ => 0, fun _ => 0), fun _ => 0, fun _ => 0, fun _ => 0) (fun _ => 0) (fun _ => 0) := by
    refine ⟨⟨?_, ?_, by decide, by decide, fun _ => ⟨rfl, rfl⟩⟩, fun q => absurd rfl q, ⟨⟨by decide, fun v hv => absurd hv (by omega)⟩, ?_, ?_⟩, ⟨fun _ => [], by decide, fun v hv => absurd hv (by omega)⟩, fun v hv => absurd hv (by omega), ⟨fun v _ hv => ?_, fun v hv => ?_⟩, ⟨by decide, ?_, ?_, fun i hi => absurd hi (by omega), fun i hi => absurd hi (by omega)⟩⟩
    · rw [c2 m (by omega)]; exact a2 0 (by decide)
    · rw [hτ2]; simp (disch := omega) only [wi_eq, wi_eq', wi_ne, wi_row, wi_2]
    · rw [c2 m (by omega)]; exact a2 3 (by decide)
    · rw [hτ2]; simp (disch := omega) only [wi_eq, wi_eq', wi_ne, wi_row, wi_2]; rfl
    · rw [c2 _ (by omega)]; exact (a3 v hv).1
    · rw [c2 _ (by omega)]; exact (a3 v hv).2
    · rw [c2 m (by omega)]; exact a2 4 (by decide)
    · rw [hτ2]; simp (disch := omega) only [wi_eq, wi_eq', wi_ne, wi_row, wi_2]; rfl
  have l2 : LC m σ σ2 := ⟨fun k h1 _ h3 => by rw [c2 k h1, a4 k (by omega) (by omega) (by omega)], by rw [hσ2]; exact a5⟩
  have f2 : LF τ τ2 := by rw [hτ2]; exact LFt (LFv (by omega)) (LFt (LFv (by omega)) (LFv (by omega)))
  obtain ⟨σ3, τ3, pl, k, l, n, b1, b2, b3, -, b5, b6⟩ := step0_ok hB hS
  have ec : f_X5_readInto m (I (N : Int)) σ = f_X5_readInto_30 m FU (I 0) σ3 := by
    unfold f_X5_readInto
    rw [a1, bd_s, nm_W, nm_W, nm_W, nm_W, show wi (wi (wi (wi σ1 1 1 (0 : Int32)) 1 2 (-1 : Int32)) 1 6 (0 : Int32)) 1 5 (I (N : Int)) = σ2 from hσ2.symm, b1, bd_s]
    rfl
  have er : f_X7_readAll τ = bd (f_X7_readLine τ3) fun _ s => f_X7_readAll_23 FU s := by
    unfold f_X7_readAll
    rw [nm_W, nm_W, nm_W, show wi (wi (wi τ 102 16 (0 : Int32)) 102 19 (0 : Int32)) 102 20 (0 : Int32) = τ2 from hτ2.symm, b2, bd_s]
  rw [ec, er]
  rcases text_ok hm 901 0 FU FU pl 0 0 0 σ3 τ3 k n 0 0 0 l _ _ _ rfl (by omega) (by show _ < 6000; omega) (by show _ < 6000; omega) (Nat.zero_le _) (BY_f hB (CFG b5) b6) b3 (PRD_f hm hP (CFG b5) b6) with ⟨σ4, τ4, s1, s2, s3, s4, s5⟩ | ⟨σ4, τ4, W, p, L, V, E, d, dl, et, s1, s2, s3, s4, s5, s6, s7⟩
  · exact Or.inl ⟨σ4, τ4, s1, s2, s3, LCt l2 (LCt (CGL (CFG b5)) s4), LFt f2 (LFt (RXL b6) s5)⟩
  · exact Or.inr ⟨σ4, τ4, W, p, L, V, E, d, dl, et, s1, s2, s3, s4, s5, LCt l2 (LCt (CGL (CFG b5)) s6), LFt f2 (LFt (RXL b6) s7)⟩
theorem split_no {σ τ : Wd} {tp : Nat} {a : Int} (ha : R a) (h : a < 0 ∨ (tp : Int) < a) (ht : tp ≤ 900) (h1 : σ.1 1 0 = I (tp : Int)) (h2 : τ.1 102 27 = I (tp : Int)) : f_X6_split (I a) σ = some (I (-1), wi σ 0 12 (I 2)) ∧ f_X7_split (I a) τ = some (I (-1), wi (wi (wi τ 102 0 (I 0)) 102 1 (I 2)) 102 2 (I (-1))) := by
  unfold R at ha
  constructor
  · unfold f_X6_split f_X6_split_15
    rcases h with h | h
    · simp (disch := omega) only [↓reduceIte, gd_t, bd_s, nm_W, nm_I, I_add, I_sub, I_mul, I_neg, I_le_t, I_le_f, I_lt_t, I_lt_f, I_eq_t, I_eq_f, I_inb', I_ix', Int.toNat_natCast, decide_true, decide_false, Bool.not_false, Bool.not_true, if_true, if_false, wi_eq, wi_eq', wi_ne, wi_row, wi_2, N0, N1, N2, N3, N4, N5, N6, N7, N8, N9, N10, N11, N12, N13, N14, N15, N16, N17, N18, N19, N20, N21, N22, N23, N24, N25, N26, N27, N28, N29, N30, N31, N32, N33, N34, N35, N36, N37, N38, N39, N40, N41, N42, N43, N45, N48, N57, N59, N88, N89, N97, N99, N120, N121, N122, N179, N200, N255, N300, N400, N880, N900, N999, N1019, N50000000, N100000000, N1000000000, N2147483647, N2147483648]
    · simp (disch := omega) only [↓reduceIte, gd_t, bd_s, nm_W, nm_I, I_add, I_sub, I_mul, I_neg, I_le_t, I_le_f, I_lt_t, I_lt_f, I_eq_t, I_eq_f, I_inb', I_ix', Int.toNat_natCast, decide_true, decide_false, Bool.not_false, Bool.not_true, if_true, if_false, wi_eq, wi_eq', wi_ne, wi_row, wi_2, N0, N1, N2, N3, N4, N5, N6, N7, N8, N9, N10, N11, N12, N13, N14, N15, N16, N17, N18, N19, N20, N21, N22, N23, N24, N25, N26, N27, N28, N29, N30, N31, N32, N33, N34, N35, N36, N37, N38, N39, N40, N41, N42, N43, N45, N48, N57, N59, N88, N89, N97, N99, N120, N121, N122, N179, N200, N255, N300, N400, N880, N900, N999, N1019, N50000000, N100000000, N1000000000, N2147483647, N2147483648, h1]
  · unfold f_X7_split f_X7_split_17
    rcases h with h | h
    · simp (disch := omega) only [↓reduceIte, gd_t, bd_s, nm_W, nm_I, I_add, I_sub, I_mul, I_neg, I_le_t, I_le_f, I_lt_t, I_lt_f, I_eq_t, I_eq_f, I_inb', I_ix', Int.toNat_natCast, decide_true, decide_false, Bool.not_false, Bool.not_true, if_true, if_false, wi_eq, wi_eq', wi_ne, wi_row, wi_2, N0, N1, N2, N3, N4, N5, N6, N7, N8, N9, N10, N11, N12, N13, N14, N15, N16, N17, N18, N19, N20, N21, N22, N23, N24, N25, N26, N27, N28, N29, N30, N31, N32, N33, N34, N35, N36, N37, N38, N39, N40, N41, N42, N43, N45, N48, N57, N59, N88, N89, N97, N99, N120, N121, N122, N179, N200, N255, N300, N400, N880, N900, N999, N1019, N50000000, N100000000, N1000000000, N2147483647, N2147483648, refR]
    · simp (disch := omega) only [↓reduceIte, gd_t, bd_s, nm_W, nm_I, I_add, I_sub, I_mul, I_neg, I_le_t, I_le_f, I_lt_t, I_lt_f, I_eq_t, I_eq_f, I_inb', I_ix', Int.toNat_natCast, decide_true, decide_false, Bool.not_false, Bool.not_true, if_true, if_false, wi_eq, wi_eq', wi_ne, wi_row, wi_2, N0, N1, N2, N3, N4, N5, N6, N7, N8, N9, N10, N11, N12, N13, N14, N15, N16, N17, N18, N19, N20, N21, N22, N23, N24, N25, N26, N27, N28, N29, N30, N31, N32, N33, N34, N35, N36, N37, N38, N39, N40, N41, N42, N43, N45, N48, N57, N59, N88, N89, N97, N99, N120, N121, N122, N179, N200, N255, N300, N400, N880, N900, N999, N1019, N50000000, N100000000, N1000000000, N2147483647, N2147483648, h2, refR]
theorem split_c {σ : Wd} {tp N : Nat} (hN : N ≤ tp) (ht : tp ≤ 900) (h1 : σ.1 1 0 = I (tp : Int)) {m m' : Nat} (hm' : σ.2.2 0 3 = m') (bm' : bM m' = true) {r : Int32} {s : Wd} (e : f_X5_readInto m' (I (N : Int)) σ = some (r, s)) (hs : s.2 = σ.2) (hm : σ.2.2 0 4 = m) (bm : bM m = true) :
    f_X6_split (I (N : Int)) σ = if r = 0 then some (I (-1), wi (wi (wi s 1 0 (I 0)) 0 13 ((wi s 1 0 (I 0)).1 1 1)) 0 12 (I 4)) else bd (f_X4_clear 63 (wr (wr (wi (wi s 1 0 (I 0)) 0 13 ((wi s 1 0 (I 0)).1 1 1)) 0 3 m) 0 4 m')) fun _ σ11 => gd (bM ((wi (wi (wi σ11 0 10 (I 1)) 0 11 (I 0)) 0 12 (I 0)).2.2 0 4)) (some ((wi (wi (wi σ11 0 10 (I 1)) 0 11 (I 0)) 0 12 (I 0)).1 ((wi (wi (wi σ11 0 10 (I 1)) 0 11 (I 0)) 0 12 (I 0)).2.2 0 4) 3, wi (wi (wi σ11 0 10 (I 1)) 0 11 (I 0)) 0 12 (I 0))) := by
  have n1 : ¬ I (N : Int) < (0 : Int32) := by show ¬ I (N : Int) < I 0; rw [I_lt (by unfold R; omega) (by unfold R; omega)]; omega
  have n2 : I (N : Int) ≤ σ.1 1 0 := by rw [h1, I_le (by unfold R; omega) (by unfold R; omega)]; omega
  have q3 : (wi (wi s 1 0 (0 : Int32)) 0 13 ((wi s 1 0 (0 : Int32)).1 1 1)).2.2 0 3 = m' := by show s.2.2 0 3 = m'; rw [hs]; exact hm'
  have q4 : (wi (wi s 1 0 (0 : Int32)) 0 13 ((wi s 1 0 (0 : Int32)).1 1 1)).2.2 0 4 = m := by show s.2.2 0 4 = m; rw [hs]; exact hm
  unfold f_X6_split
  rw [if_neg n1, if_pos n2, hm', bm', gd_t, e, bd_s, nm_W, nm_W]
  by_cases c : r = 0
  · rw [if_pos c, if_pos c]
    rfl
  · rw [if_neg c, if_neg c, q3, q4, bm', bm, gd_t, gd_t, nm_W, nm_W]
    rfl
theorem split_r {τ : Wd} {tp N : Nat} (hN : N ≤ tp) (ht : tp ≤ 900) (h1 : τ.1 102 27 = I (tp : Int)) {s : Wd} {f : Int} (e : f_X7_readAll (wi (wi (wi (wi (wi τ 102 0 (I 0)) 102 28 (I (N : Int))) 102 27 (I 0)) 102 29 (I 0)) 102 33 (I 0)) = some (0, s)) (h33 : s.1 102 33 = I f) (hf : 0 ≤ f ∧ f ≤ 6) :
    f_X7_split (I (N : Int)) τ = if f = 0 then bd (f_X7_takesOver s) fun _ σ7 => bd (f_X7_good (σ7.1 102 14) σ7) fun r8 σ9 => some (r8, σ9) else some (I (-1), wi (wi s 102 1 (I 4)) 102 2 (s.1 102 31)) := by
  have n1 : ¬ I (N : Int) < (0 : Int32) := by show ¬ I (N : Int) < I 0; rw [I_lt (by unfold R; omega) (by unfold R; omega)]; omega
  have n2 : I (N : Int) ≤ (wi τ 102 0 (0 : Int32)).1 102 27 := by rw [wi_ne (by decide), h1, I_le (by unfold R; omega) (by unfold R; omega)]; omega
  unfold f_X7_split
  rw [nm_W, if_neg n1, if_pos n2, nm_W, nm_W, nm_W, nm_W, show f_X7_readAll (wi (wi (wi (wi (wi τ 102 0 (0 : Int32)) 102 28 (I (N : Int))) 102 27 (0 : Int32)) 102 29 (0 : Int32)) 102 33 (0 : Int32)) = some (0, s) from e, bd_s, h33]
  by_cases c : f = 0
  · rw [if_pos c, if_pos (show I f ≤ (0 : Int32) by rw [c]; decide)]
  · rw [if_neg c, if_neg (show ¬ I f ≤ (0 : Int32) by show ¬ I f ≤ I 0; rw [I_le (by unfold R; omega) (by unfold R; omega)]; omega), nm_W, nm_W]
    rw [wi_ne (by decide)]
    rfl
end
section
/-! PURE: split, whole -/
set_option maxHeartbeats 2000000 in
theorem split_bad {m m' V E : Nat} {σ τ σ' τ' : Wd} {pres kp : Bool} {d : MD} {p L W : Int} {dl pl et : Nat → Int} {b : Bool} {t s rd : Int} {h n g : Nat → Int} {B : Int} (hG : GA m σ τ V E pres kp d p L W dl pl et b t s rd h n g B) (hm : (m = 11 ∧ m' = 24) ∨ (m = 24 ∧ m' = 11)) (hB : BD σ' τ') (hc : LC m' σ σ')
    (hr1 : ∀ k, k ≠ 102 → k < 106 ∨ 110 < k → τ'.1 k = τ.1 k) (hr2 : ∀ i, i < 16 ∨ 20 < i → 0 < i → i < 27 ∨ 33 < i → τ'.1 102 i = τ.1 102 i) (h27 : τ'.1 102 27 = I 0) :
    GA m (wi (wi (wi σ' 1 0 (I 0)) 0 13 ((wi σ' 1 0 (I 0)).1 1 1)) 0 12 (I 4)) (wi (wi τ' 102 1 (I 4)) 102 2 (τ'.1 102 31)) V E pres kp d p L W dl pl et b t s rd h n g B := by
  obtain ⟨g1, g2, ⟨g3, g4⟩, ⟨g5, g6, g7⟩, ⟨g8, g9, g10⟩, ⟨g11, g12⟩, -⟩ := hG
  obtain ⟨f, pf, x1, x2, y1, y2, y3, y4, y5⟩ := hB
  obtain ⟨σF, hσ⟩ : ∃ s, s = wi (wi (wi σ' 1 0 (I 0)) 0 13 ((wi σ' 1 0 (I 0)).1 1 1)) 0 12 (I 4) := ⟨_, rfl⟩
  obtain ⟨τF, hτ⟩ : ∃ s, s = wi (wi τ' 102 1 (I 4)) 102 2 (τ'.1 102 31) := ⟨_, rfl⟩
  have c1 : ∀ k, k ≠ 0 → k ≠ 1 → k ≠ 3 → k < m' ∨ m' + 12 < k → σF.1 k = σ.1 k := fun k a1 a2 a3 a4 => by rw [hσ, wi_row a1, wi_row a1, wi_row a2, hc.1 k a2 a3 a4]
  have c0 : ∀ i, i ≠ 12 → i ≠ 13 → σF.1 0 i = σ.1 0 i := fun i a1 a2 => by rw [hσ, wi_ne a1, wi_ne a2, wi_row (by decide), hc.1 0 (by decide) (by decide) (by omega)]
  have s2 : σF.2 = σ.2 := by rw [hσ]; exact hc.2
  have r1 : ∀ k, k ≠ 102 → k < 106 ∨ 110 < k → τF.1 k = τ.1 k := fun k a1 a2 => by rw [hτ, wi_row a1, wi_row a1, hr1 k a1 a2]
  have r2 : ∀ i, 2 < i → i < 16 ∨ 20 < i → i < 27 ∨ 33 < i → τF.1 102 i = τ.1 102 i := fun i a1 a2 a3 => by rw [hτ, wi_ne (by omega), wi_ne (by omega), hr2 i a2 (by omega) a3]
  rw [← hσ, ← hτ]
  refine ⟨by rw [s2]; exact g1, by rw [s2]; exact g2, ⟨QQ_congr g3 (by omega) (fun k a1 a2 => c1 k (by omega) (by omega) (by omega) (by omega)) (fun k a1 a2 => c1 k (by omega) (by omega) (by omega) (by omega)) (fun i a1 a2 => r2 i (by omega) (by omega) (by omega)) (r1 103 (by decide) (by decide)) (r1 104 (by decide) (by decide)) (r1 105 (by decide) (by decide)) (r1 112 (by decide) (by decide)), g4⟩, ⟨by rw [c0 10 (by decide) (by decide)]; exact g5, by rw [r2 21 (by decide) (by decide) (by decide)]; exact g6, g7⟩,
    ⟨by rw [c0 11 (by decide) (by decide)]; exact g8, by rw [r2 25 (by decide) (by decide) (by decide)]; exact g9, fun q => ⟨(g10 q).1, KK_congr (g10 q).2 (Int.le_refl _) (fun k a1 a2 => c1 k (by omega) (by omega) (by omega) (by omega)) (fun k a1 a2 => c1 k (by omega) (by omega) (by omega) (by omega)) (fun i a1 a2 => r2 i (by omega) (by omega) (by omega)) (r1 103 (by decide) (by decide)) (r1 104 (by decide) (by decide)) (r1 105 (by decide) (by decide)) (r1 113 (by decide) (by decide))⟩⟩,
    ⟨⟨?_, fun _ => ?_, fun q => absurd ?_ q⟩, ?_⟩, ⟨0, by decide, ?_, ?_, fun i hi => absurd hi (by omega)⟩⟩
  · rw [hσ, hτ, wi_ne (by decide), wi_eq, wi_eq]
  · rw [hσ, hτ, wi_eq, wi_row (by decide), wi_row (by decide), wi_ne (by decide), y5, x2]
  · rw [hσ, wi_eq]
  · rw [hσ, hτ, wi_ne (by decide), wi_ne (by decide), wi_ne (by decide), wi_eq, wi_ne (by decide), y1, x1]
  · rw [hσ, wi_row (by decide), wi_row (by decide), wi_eq]; rfl
  · rw [hτ, wi_ne (by decide), wi_ne (by decide)]; exact h27
set_option maxHeartbeats 2000000 in
theorem m_split (x : Int32) : MT (f_X6_split x) (f_X7_split x) := by
  intro σ τ B ⟨m, V, E, pres, kp, d, p, L, W, dl, pl, et, b, t, s, rd, h, n, g, hG⟩ hB
  obtain ⟨a, rfl, ha⟩ := argI x
  obtain ⟨bm, m10, m63⟩ := bMm hG.1
  obtain ⟨tp, t1, t2, t3, t4⟩ := hG.2.2.2.2.2.2
  by_cases c : a < 0 ∨ (tp : Int) < a
  · obtain ⟨e1, e2⟩ := split_no ha c t1 t2 t3
    refine ⟨I (-1), _, _, e1, e2, ⟨m, V, E, pres, kp, d, p, L, W, dl, pl, et, b, t, s, rd, h, n, g, GA_B (GA_q (c := 2) hG (fun k a1 a2 => wi_row a1) (fun i a1 => wi_ne a1) wi_2 (fun k a1 a2 => by rw [wi_row a1, wi_row a1, wi_row a1]) (fun i a1 a2 => by rw [wi_ne (by omega), wi_ne (by omega), wi_ne (by omega)]) wi_eq (by rw [wi_ne (by decide), wi_eq]) wi_eq (by omega)) (by omega)⟩, ⟨fun k hk => by rw [wi_row (by omega)], by rw [wi_2]⟩, ⟨fun k hk => by rw [wi_row (by omega), wi_row (by omega), wi_row (by omega)], by rw [wi_2, wi_2, wi_2]⟩⟩
  · obtain ⟨N, rfl⟩ := Int.eq_ofNat_of_zero_le (show 0 ≤ a by omega)
    obtain ⟨m', hm', mm⟩ : ∃ m', σ.2.2 0 3 = m' ∧ ((m = 11 ∧ m' = 24) ∨ (m = 24 ∧ m' = 11)) := ⟨_, rfl, hG.1⟩
    have bm' : bM m' = true ∧ 10 < m' := by
      rcases mm with ⟨-, q⟩ | ⟨-, q⟩ <;> subst q <;> decide
    obtain ⟨τ0, hτ0⟩ : ∃ s, s = wi (wi (wi (wi (wi τ 102 0 (I 0)) 102 28 (I (N : Int))) 102 27 (I 0)) 102 29 (I 0)) 102 33 (I 0) := ⟨_, rfl⟩
    have r0 : ∀ k, k ≠ 102 → τ0.1 k = τ.1 k := fun k q => by rw [hτ0, wi_row q, wi_row q, wi_row q, wi_row q, wi_row q]
    have v0 : ∀ i, 0 < i → i < 27 ∨ 33 < i → τ0.1 102 i = τ.1 102 i := fun i q1 q2 => by rw [hτ0, wi_ne (by omega), wi_ne (by omega), wi_ne (by omega), wi_ne (by omega), wi_ne (by omega)]
    have s0 : τ0.2 = τ.2 := by rw [hτ0]; rfl
    have z27 : τ0.1 102 27 = I 0 := by rw [hτ0]; simp (disch := omega) only [wi_eq, wi_eq', wi_ne, wi_row, wi_2]
    rcases read_ok (m := m') (N := N) (σ := σ) (τ := τ0) bm'.2 (by omega) (fun i hi => by rw [r0 115 (by decide)]; exact t4 i (by omega)) (by rw [hτ0]; simp (disch := omega) only [wi_eq, wi_eq', wi_ne, wi_row, wi_2]) (by rw [hτ0]; simp (disch := omega) only [wi_eq, wi_eq', wi_ne, wi_row, wi_2]) (by rw [hτ0]; simp (disch := omega) only [wi_eq, wi_eq', wi_ne, wi_row, wi_2]) with ⟨σ1, τ1, q1, q2, q3, q4, q5⟩ | ⟨σ1, τ1, W1, p1, L1, V1, E1, d1, dl1, et1, q1, q2, q3, q4, ⟨q5, q5'⟩, q6, q7⟩
    · obtain ⟨f, pf, -, -, hF⟩ := id q3
      have ec := split_c (show N ≤ tp by omega) t1 t2 hm' bm'.1 q1 q4.2 hG.2.1 bm
      rw [hτ0] at q2
      have er := split_r (show N ≤ tp by omega) t1 t3 q2 hF.1 ⟨by have := hF.2.1; omega, hF.2.2.1⟩
      rw [if_pos (show I 0 = (0 : Int32) from rfl)] at ec
      rw [if_neg (by have := hF.2.1; omega)] at er
      refine ⟨I (-1), _, _, ec, er, ⟨m, V, E, pres, kp, d, p, L, W, dl, pl, et, b, t, s, rd, h, n, g, GA_B (split_bad hG mm q3 q4 (fun k a1 a2 => by rw [q5.1 k a1 a2, r0 k a1]) (fun i a1 a2 a3 => by rw [q5.2.1 i a1 (by omega), v0 i a2 a3]) (by rw [q5.2.1 27 (by decide) (by decide)]; exact z27)) (by omega)⟩, ⟨fun k hk => ?_, ?_⟩, ⟨fun k hk => ?_, ?_⟩⟩
      · rw [wi_row (by omega), wi_row (by omega), wi_row (by omega), q4.1 k (by omega) (by omega) (by omega)]
      · rw [wi_2, wi_2, wi_2, q4.2]
      · rw [wi_row (by omega), wi_row (by omega), q5.1 k (by omega) (by omega), r0 k (by omega)]
      · rw [wi_2, wi_2, q5.2.2, s0]
    · have ec := split_c (show N ≤ tp by omega) t1 t2 hm' bm'.1 q1 q6.2 hG.2.1 bm
      rw [hτ0] at q2
      have er := split_r (show N ≤ tp by omega) t1 t3 q2 q5 ⟨by decide, by decide⟩
      rw [if_neg (show ¬ I 1 = (0 : Int32) by decide)] at ec
      rw [if_pos rfl] at er
      obtain ⟨σ2, hσ2⟩ : ∃ s, s = wr (wr (wi (wi σ1 1 0 (I 0)) 0 13 ((wi σ1 1 0 (I 0)).1 1 1)) 0 3 m) 0 4 m' := ⟨_, rfl⟩
      obtain ⟨σ3, a1, a2, a3, a4, a5, a6⟩ := cRunClr (σ := σ2)
      obtain ⟨τ3, b1, b2, b3, b4, b5, b6, b7, b8, b9, b10⟩ := rOver q3 q4.1
      obtain ⟨σF, hσF⟩ : ∃ s, s = wi (wi (wi σ3 0 10 (I 1)) 0 11 (I 0)) 0 12 (I 0) := ⟨_, rfl⟩
      have sF4 : σF.2.2 0 4 = m' := by rw [hσF]; show σ3.2.2 0 4 = m'; rw [a6, hσ2, wr_eq]
      have sF3 : σF.2.2 0 3 = m := by rw [hσF]; show σ3.2.2 0 3 = m; rw [a6, hσ2, wr_ne (by decide), wr_eq]
      have cF : ∀ k, k ≠ 0 → k ≠ 1 → k < 63 ∨ 72 < k → σF.1 k = σ1.1 k := fun k g1 g2 g3 => by rw [hσF, wi_row g1, wi_row g1, wi_row g1, a5 k g3, hσ2, wr_1, wr_1, wi_row g1, wi_row g2]
      have cR : ∀ k, 63 ≤ k → k ≤ 72 → σF.1 k = σ3.1 k := fun k g1 g2 => by rw [hσF, wi_row (by omega), wi_row (by omega), wi_row (by omega)]
      have hQ : QQ m' 63 σF τ3 V1 E1 d1 p1 L1 W1 dl1 (fun _ => 0) et1 false 0 0 0 (fun _ => 0) (fun _ => 0) (fun _ => 0) :=
        taken_ok bm'.2 q3 q4.1 (fun k g1 g2 => cF k (by omega) (by omega) (by omega)) (fun i hi => by rw [cR 63 (by decide) (by decide)]; exact a2 i hi) (fun v hv => ⟨fun k g1 g2 => by rw [cR k (by omega) (by omega)]; exact (a3 v hv).1 k g1 g2, by rw [cR 70 (by decide) (by decide)]; exact (a3 v hv).2.1, by rw [cR 71 (by decide) (by decide)]; exact (a3 v hv).2.2⟩) (by rw [cR 72 (by decide) (by decide)]; exact a4) b2 b3 b4 b5 b6 b7
      have tB := hG.2.2.1.2
      have t00 := hG.2.2.1.1.2.2.1.2.1.2.2.1
      rw [← hσ2, a1, bd_s, ← hσF, sF4, bm'.1, gd_t] at ec
      rw [b1, bd_s, goodR, bd_s] at er
      have e3 : σF.1 m' 3 = I (V1 : Int) := hQ.1.2.1.1
      rw [e3] at ec
      rw [b2.1] at er
      have wF2 : ∀ i, 2 < i → (wi (wi τ3 102 1 (I 0)) 102 2 (I (-1))).1 102 i = τ3.1 102 i := fun i hi => by rw [wi_ne (by omega), wi_ne (by omega)]
      have wFr : ∀ k, k ≠ 102 → (wi (wi τ3 102 1 (I 0)) 102 2 (I (-1))).1 k = τ3.1 k := fun k hk => by rw [wi_row hk, wi_row hk]
      refine ⟨I (V1 : Int), σF, _, ec, er, ⟨m', V1, E1, true, false, d1, p1, L1, W1, dl1, fun _ => 0, et1, false, 0, 0, 0, fun _ => 0, fun _ => 0, fun _ => 0, by rw [sF3]; omega, sF4, ⟨QQ_congr hQ (by omega) (fun _ _ _ => rfl) (fun _ _ _ => rfl) (fun i g1 g2 => wF2 i (by omega)) (wFr 103 (by decide)) (wFr 104 (by decide)) (wFr 105 (by decide)) (wFr 112 (by decide)), by omega⟩, ⟨?_, ?_, fun q => by cases q⟩, ⟨?_, ?_, fun q => by cases q⟩, ⟨⟨?_, fun q => absurd q ?_, fun _ => wi_eq⟩, ?_⟩, ⟨0, by decide, ?_, ?_, fun i hi => absurd hi (by omega)⟩⟩, ⟨fun k hk => ?_, ?_⟩, ⟨fun k hk => ?_, ?_⟩⟩
      · rw [hσF, wi_ne (by decide), wi_ne (by decide), wi_eq]; rfl
      · rw [wF2 21 (by decide)]; exact b3.2.2.2.1
      · rw [hσF, wi_ne (by decide), wi_eq]; rfl
      · rw [wF2 25 (by decide)]; exact b3.2.2.2.2.1
      · rw [hσF, wi_eq, wi_ne (by decide), wi_eq]
      · rw [hσF, wi_eq]; decide
      · rw [wF2 33 (by decide), b9 33 (by decide) (by decide) (by decide), q5, hσF, wi_ne (by decide), wi_ne (by decide), wi_ne (by decide), a5 0 (by decide), hσ2, wr_1, wr_1, wi_eq, wi_ne (by decide), q5']
      · rw [hσF, wi_row (by decide), wi_row (by decide), wi_row (by decide), a5 1 (by decide), hσ2, wr_1, wr_1, wi_row (by decide), wi_eq]; rfl
      · rw [wF2 27 (by decide), b9 27 (by decide) (by decide) (by decide), q7.2.1 27 (by decide) (by decide)]; exact z27
      · rw [cF k (by omega) (by omega) (by omega), q6.1 k (by omega) (by omega) (by omega)]
      · rw [hσF]; show σ3.2.1 = σ.2.1; rw [a6, hσ2]; show σ1.2.1 = σ.2.1; rw [q6.2]
      · rw [wFr k (by omega), b8 k (by omega) (by omega) (by omega), q7.1 k (by omega) (by omega), r0 k (by omega)]
      · rw [wi_2, wi_2, b10, q7.2.2, s0]
end
section
/-! PURE: feed, with its bytes -/
def bq (a : Int32) (q : Int) : Int32 := vp_nar .byte ((a >>> (I (24 - 8 * q) &&& I 31)).toInt8.toInt32)
theorem nar_byte (x : Int32) : vp_nar .byte x = x.toInt8.toInt32 := rfl
theorem bq_b (a : Int32) (q : Int) : -128 ≤ (bq a q).toInt ∧ (bq a q).toInt ≤ 127 := by
  unfold bq
  rw [nar_byte, Int8.toInt_toInt32]
  have h1 := Int8.le_toInt (((a >>> (I (24 - 8 * q) &&& I 31)).toInt8.toInt32).toInt8)
  have h2 := Int8.toInt_lt (((a >>> (I (24 - 8 * q) &&& I 31)).toInt8.toInt32).toInt8)
  omega
theorem put_b {a : Int32} : ∀ (r q n l : Nat) (z : Int) (σ : Wd), z = 24 - 8 * (q : Int) → q + r = 4 → r < n → σ.1 1 0 = I (l : Int) → l + r ≤ 900 →
    ∃ σ', f_X5_put_3 n a (I z) σ = some (0, σ') ∧ σ'.1 1 0 = I ((l + r : Nat) : Int) ∧ (∀ i, i < r → σ'.1 2 (l + i) = bq a ((q + i : Nat) : Int)) ∧ (∀ i, i < l → σ'.1 2 i = σ.1 2 i) ∧ (∀ k, k ≠ 1 → k ≠ 2 → σ'.1 k = σ.1 k) ∧ (∀ i, i ≠ 0 → σ'.1 1 i = σ.1 1 i) ∧ σ'.2 = σ.2
  | 0, q, n + 1, l, z, σ, hz, hq, _, h1, hl => by
    refine ⟨σ, ?_, h1, fun i hi => absurd hi (by omega), fun _ _ => rfl, fun _ _ _ => rfl, fun _ _ => rfl, rfl⟩
    rw [f_X5_put_3]
    unfold f_X5_put_46
    simp (disch := omega) only [↓reduceIte, gd_t, bd_s, nm_W, nm_I, I_add, I_sub, I_mul, I_neg, I_le_t, I_le_f, I_lt_t, I_lt_f, I_eq_t, I_eq_f, I_inb', I_ix', Int.toNat_natCast, decide_true, decide_false, Bool.not_false, Bool.not_true, if_true, if_false, wi_eq, wi_eq', wi_ne, wi_row, wi_2, N0, N1, N2, N3, N4, N5, N6, N7, N8, N9, N10, N11, N12, N13, N14, N15, N16, N17, N18, N19, N20, N21, N22, N23, N24, N25, N26, N27, N28, N29, N30, N31, N32, N33, N34, N35, N36, N37, N38, N39, N40, N41, N42, N43, N45, N48, N57, N59, N88, N89, N97, N99, N120, N121, N122, N179, N200, N255, N300, N400, N880, N900, N999, N1019, N50000000, N100000000, N1000000000, N2147483647, N2147483648]
  | r + 1, q, n + 1, l, z, σ, hz, hq, hn, h1, hl => by
    obtain ⟨σ', e1, e2, e3, e4, e5, e6, e7⟩ := put_b (a := a) r (q + 1) n (l + 1) (z + -8) (wi (wi σ 2 l (bq a (q : Int))) 1 0 (I ((l : Int) + 1))) (by omega) (by omega) (by omega) (by rw [wi_eq]; rfl) (by omega)
    refine ⟨σ', ?_, by rw [e2, show l + 1 + r = l + (r + 1) by omega], fun i hi => ?_, fun i hi => by rw [e4 i (by omega), wi_row (by decide), wi_ne (by omega)], fun k k1 k2 => by rw [e5 k k1 k2, wi_row k1, wi_row k2], fun i hi => by rw [e6 i hi, wi_ne hi, wi_row (by decide)], by rw [e7]; rfl⟩
    · rw [← e1, f_X5_put_3]
      unfold bq
      subst hz
      simp (disch := omega) only [↓reduceIte, gd_t, bd_s, nm_W, nm_I, I_add, I_sub, I_mul, I_neg, I_le_t, I_le_f, I_lt_t, I_lt_f, I_eq_t, I_eq_f, I_inb', I_ix', Int.toNat_natCast, decide_true, decide_false, Bool.not_false, Bool.not_true, if_true, if_false, wi_eq, wi_eq', wi_ne, wi_row, wi_2, N0, N1, N2, N3, N4, N5, N6, N7, N8, N9, N10, N11, N12, N13, N14, N15, N16, N17, N18, N19, N20, N21, N22, N23, N24, N25, N26, N27, N28, N29, N30, N31, N32, N33, N34, N35, N36, N37, N38, N39, N40, N41, N42, N43, N45, N48, N57, N59, N88, N89, N97, N99, N120, N121, N122, N179, N200, N255, N300, N400, N880, N900, N999, N1019, N50000000, N100000000, N1000000000, N2147483647, N2147483648, h1]
    · by_cases c : i = 0
      · rw [c, e4 (l + 0) (by omega), wi_row (by decide)]
        exact wi_eq
      · obtain ⟨j, rfl⟩ : ∃ j, i = j + 1 := ⟨i - 1, by omega⟩
        rw [show l + (j + 1) = l + 1 + j by omega, e3 j (by omega), show q + 1 + j = q + (j + 1) by omega]
theorem puts_b {a : Int32} {l : Nat} {σ : Wd} (h1 : σ.1 1 0 = I (l : Int)) (hl : l + 4 ≤ 900) : ∃ σ', f_X5_put a σ = some (0, σ') ∧ σ'.1 1 0 = I ((l + 4 : Nat) : Int) ∧ (∀ i, i < 4 → σ'.1 2 (l + i) = bq a ((i : Nat) : Int)) ∧ (∀ i, i < l → σ'.1 2 i = σ.1 2 i) ∧ (∀ k, k ≠ 1 → k ≠ 2 → σ'.1 k = σ.1 k) ∧ (∀ i, i ≠ 0 → σ'.1 1 i = σ.1 1 i) ∧ σ'.2 = σ.2 := by
  obtain ⟨σ', e1, e2, e3, e4⟩ := put_b (a := a) 4 0 FU l 24 σ (by decide) rfl (by decide) h1 hl
  exact ⟨σ', e1, e2, fun i hi => by rw [e3 i hi, Nat.zero_add], e4⟩
def sel (a b c d e : Int32) (i : Nat) : Int32 := if i < 4 then a else if i < 8 then b else if i < 12 then c else if i < 16 then d else e
theorem feed_c {a b c d e : Int32} {l : Nat} {σ : Wd} (h1 : σ.1 1 0 = I (l : Int)) (hl : l + 20 ≤ 900) : ∃ σ', f_X6_feed a b c d e σ = some (I ((l + 20 : Nat) : Int), σ') ∧ σ'.1 1 0 = I ((l + 20 : Nat) : Int) ∧ (∀ i, i < 20 → σ'.1 2 (l + i) = bq (sel a b c d e i) ((i % 4 : Nat) : Int)) ∧ (∀ i, i < l → σ'.1 2 i = σ.1 2 i) ∧ (∀ k, k ≠ 1 → k ≠ 2 → σ'.1 k = σ.1 k) ∧ (∀ i, i ≠ 0 → σ'.1 1 i = σ.1 1 i) ∧ σ'.2 = σ.2 := by
  obtain ⟨σ1, a1, a2, a3, a4, a5, a6, a7⟩ := puts_b (a := a) h1 (by omega)
  obtain ⟨σ2, b1, b2, b3, b4, b5, b6, b7⟩ := puts_b (a := b) a2 (by omega)
  obtain ⟨σ3, c1, c2, c3, c4, c5, c6, c7⟩ := puts_b (a := c) b2 (by omega)
  obtain ⟨σ4, d1, d2, d3, d4, d5, d6, d7⟩ := puts_b (a := d) c2 (by omega)
  obtain ⟨σ5, e1, e2, e3, e4, e5, e6, e7⟩ := puts_b (a := e) d2 (by omega)
  have e2 : σ5.1 1 0 = I ((l + 20 : Nat) : Int) := e2
  refine ⟨σ5, ?_, e2, fun i hi => ?_, fun i hi => by rw [e4 i (by omega), d4 i (by omega), c4 i (by omega), b4 i (by omega), a4 i hi], fun k k1 k2 => by rw [e5 k k1 k2, d5 k k1 k2, c5 k k1 k2, b5 k k1 k2, a5 k k1 k2], fun i hi => by rw [e6 i hi, d6 i hi, c6 i hi, b6 i hi, a6 i hi], by rw [e7, d7, c7, b7, a7]⟩
  · unfold f_X6_feed
    rw [if_pos (show σ.1 1 0 ≤ (880 : Int32) by rw [h1]; show I (l : Int) ≤ I 880; rw [I_le (by unfold R; omega) (by unfold R; omega)]; omega), a1, bd_s, b1, bd_s, c1, bd_s, d1, bd_s, e1, bd_s, e2]
  · unfold sel
    by_cases q1 : i < 4
    · rw [if_pos q1, e4 _ (by omega), d4 _ (by omega), c4 _ (by omega), b4 _ (by omega), a3 i q1, show i % 4 = i by omega]
    · rw [if_neg q1]
      by_cases q2 : i < 8
      · rw [if_pos q2, e4 _ (by omega), d4 _ (by omega), c4 _ (by omega), show l + i = l + 4 + (i - 4) by omega, b3 (i - 4) (by omega), show i % 4 = i - 4 by omega]
      · rw [if_neg q2]
        by_cases q3 : i < 12
        · rw [if_pos q3, e4 _ (by omega), d4 _ (by omega), show l + i = l + 4 + 4 + (i - 8) by omega, c3 (i - 8) (by omega), show i % 4 = i - 8 by omega]
        · rw [if_neg q3]
          by_cases q4 : i < 16
          · rw [if_pos q4, e4 _ (by omega), show l + i = l + 4 + 4 + 4 + (i - 12) by omega, d3 (i - 12) (by omega), show i % 4 = i - 12 by omega]
          · rw [if_neg q4, show l + i = l + 4 + 4 + 4 + 4 + (i - 16) by omega, e3 (i - 16) (by omega), show i % 4 = i - 16 by omega]
theorem feed_l {a b c d e : Int32} : ∀ (r q n l : Nat) (z : Int) (τ : Wd), z = (q : Int) → q + r = 20 → r < n → τ.1 102 27 = I (l : Int) → l + r ≤ 900 →
    ∃ τ', f_X7_feed_23 n a b c d e (I z) τ = some (I ((l + r : Nat) : Int), τ') ∧ τ'.1 102 27 = I ((l + r : Nat) : Int) ∧ (∀ i, i < r → τ'.1 115 (l + i) = bq (sel a b c d e (q + i)) (((q + i) % 4 : Nat) : Int)) ∧ (∀ i, i < l → τ'.1 115 i = τ.1 115 i) ∧ (∀ k, k ≠ 102 → k ≠ 115 → τ'.1 k = τ.1 k) ∧ (∀ i, i ≠ 27 → τ'.1 102 i = τ.1 102 i) ∧ τ'.2 = τ.2
  | 0, q, n + 1, l, z, τ, hz, hq, _, h1, hl => by
    refine ⟨τ, ?_, h1, fun i hi => absurd hi (by omega), fun _ _ => rfl, fun _ _ _ => rfl, fun _ _ => rfl, rfl⟩
    rw [f_X7_feed_23]
    simp (disch := omega) only [↓reduceIte, gd_t, bd_s, nm_W, nm_I, I_add, I_sub, I_mul, I_neg, I_le_t, I_le_f, I_lt_t, I_lt_f, I_eq_t, I_eq_f, I_inb', I_ix', Int.toNat_natCast, decide_true, decide_false, Bool.not_false, Bool.not_true, if_true, if_false, wi_eq, wi_eq', wi_ne, wi_row, wi_2, N0, N1, N2, N3, N4, N5, N6, N7, N8, N9, N10, N11, N12, N13, N14, N15, N16, N17, N18, N19, N20, N21, N22, N23, N24, N25, N26, N27, N28, N29, N30, N31, N32, N33, N34, N35, N36, N37, N38, N39, N40, N41, N42, N43, N45, N48, N57, N59, N88, N89, N97, N99, N120, N121, N122, N179, N200, N255, N300, N400, N880, N900, N999, N1019, N50000000, N100000000, N1000000000, N2147483647, N2147483648, h1]
    rfl
  | r + 1, q, n + 1, l, z, τ, hz, hq, hn, h1, hl => by
    obtain ⟨τ', e1, e2, e3, e4, e5, e6, e7⟩ := feed_l (a := a) (b := b) (c := c) (d := d) (e := e) r (q + 1) n (l + 1) (z + 1) (wi (wi τ 115 l (bq (sel a b c d e q) ((q % 4 : Nat) : Int))) 102 27 (I ((l : Int) + 1))) (by omega) (by omega) (by omega) (by rw [wi_eq]; rfl) (by omega)
    have key : f_X7_feed_23 (n + 1) a b c d e (I z) τ = f_X7_feed_76 (f_X7_feed_23 n) a b c d e (I z) (sel a b c d e q) τ := by
      rw [f_X7_feed_23]
      unfold sel
      by_cases q1 : q < 4
      · rw [if_pos q1]; simp (disch := omega) only [↓reduceIte, gd_t, bd_s, nm_W, nm_I, I_add, I_sub, I_mul, I_neg, I_le_t, I_le_f, I_lt_t, I_lt_f, I_eq_t, I_eq_f, I_inb', I_ix', Int.toNat_natCast, decide_true, decide_false, Bool.not_false, Bool.not_true, if_true, if_false, wi_eq, wi_eq', wi_ne, wi_row, wi_2, N0, N1, N2, N3, N4, N5, N6, N7, N8, N9, N10, N11, N12, N13, N14, N15, N16, N17, N18, N19, N20, N21, N22, N23, N24, N25, N26, N27, N28, N29, N30, N31, N32, N33, N34, N35, N36, N37, N38, N39, N40, N41, N42, N43, N45, N48, N57, N59, N88, N89, N97, N99, N120, N121, N122, N179, N200, N255, N300, N400, N880, N900, N999, N1019, N50000000, N100000000, N1000000000, N2147483647, N2147483648]
      · rw [if_neg q1]
        by_cases q2 : q < 8
        · rw [if_pos q2]; simp (disch := omega) only [↓reduceIte, gd_t, bd_s, nm_W, nm_I, I_add, I_sub, I_mul, I_neg, I_le_t, I_le_f, I_lt_t, I_lt_f, I_eq_t, I_eq_f, I_inb', I_ix', Int.toNat_natCast, decide_true, decide_false, Bool.not_false, Bool.not_true, if_true, if_false, wi_eq, wi_eq', wi_ne, wi_row, wi_2, N0, N1, N2, N3, N4, N5, N6, N7, N8, N9, N10, N11, N12, N13, N14, N15, N16, N17, N18, N19, N20, N21, N22, N23, N24, N25, N26, N27, N28, N29, N30, N31, N32, N33, N34, N35, N36, N37, N38, N39, N40, N41, N42, N43, N45, N48, N57, N59, N88, N89, N97, N99, N120, N121, N122, N179, N200, N255, N300, N400, N880, N900, N999, N1019, N50000000, N100000000, N1000000000, N2147483647, N2147483648]
        · rw [if_neg q2]
          by_cases q3 : q < 12
          · rw [if_pos q3]; simp (disch := omega) only [↓reduceIte, gd_t, bd_s, nm_W, nm_I, I_add, I_sub, I_mul, I_neg, I_le_t, I_le_f, I_lt_t, I_lt_f, I_eq_t, I_eq_f, I_inb', I_ix', Int.toNat_natCast, decide_true, decide_false, Bool.not_false, Bool.not_true, if_true, if_false, wi_eq, wi_eq', wi_ne, wi_row, wi_2, N0, N1, N2, N3, N4, N5, N6, N7, N8, N9, N10, N11, N12, N13, N14, N15, N16, N17, N18, N19, N20, N21, N22, N23, N24, N25, N26, N27, N28, N29, N30, N31, N32, N33, N34, N35, N36, N37, N38, N39, N40, N41, N42, N43, N45, N48, N57, N59, N88, N89, N97, N99, N120, N121, N122, N179, N200, N255, N300, N400, N880, N900, N999, N1019, N50000000, N100000000, N1000000000, N2147483647, N2147483648]
          · rw [if_neg q3]
            by_cases q4 : q < 16
            · rw [if_pos q4]; simp (disch := omega) only [↓reduceIte, gd_t, bd_s, nm_W, nm_I, I_add, I_sub, I_mul, I_neg, I_le_t, I_le_f, I_lt_t, I_lt_f, I_eq_t, I_eq_f, I_inb', I_ix', Int.toNat_natCast, decide_true, decide_false, Bool.not_false, Bool.not_true, if_true, if_false, wi_eq, wi_eq', wi_ne, wi_row, wi_2, N0, N1, N2, N3, N4, N5, N6, N7, N8, N9, N10, N11, N12, N13, N14, N15, N16, N17, N18, N19, N20, N21, N22, N23, N24, N25, N26, N27, N28, N29, N30, N31, N32, N33, N34, N35, N36, N37, N38, N39, N40, N41, N42, N43, N45, N48, N57, N59, N88, N89, N97, N99, N120, N121, N122, N179, N200, N255, N300, N400, N880, N900, N999, N1019, N50000000, N100000000, N1000000000, N2147483647, N2147483648]
            · rw [if_neg q4]; simp (disch := omega) only [↓reduceIte, gd_t, bd_s, nm_W, nm_I, I_add, I_sub, I_mul, I_neg, I_le_t, I_le_f, I_lt_t, I_lt_f, I_eq_t, I_eq_f, I_inb', I_ix', Int.toNat_natCast, decide_true, decide_false, Bool.not_false, Bool.not_true, if_true, if_false, wi_eq, wi_eq', wi_ne, wi_row, wi_2, N0, N1, N2, N3, N4, N5, N6, N7, N8, N9, N10, N11, N12, N13, N14, N15, N16, N17, N18, N19, N20, N21, N22, N23, N24, N25, N26, N27, N28, N29, N30, N31, N32, N33, N34, N35, N36, N37, N38, N39, N40, N41, N42, N43, N45, N48, N57, N59, N88, N89, N97, N99, N120, N121, N122, N179, N200, N255, N300, N400, N880, N900, N999, N1019, N50000000, N100000000, N1000000000, N2147483647, N2147483648]
    have em : I z % I 4 = I ((q % 4 : Nat) : Int) := by
      rw [I_mod (by unfold R; omega) (by unfold R; omega) (by omega) (by omega), hz]
      rfl
    have n4 : (!decide ((4 : Int32) = 0)) = true := by decide
    have g1 : inb (τ.1 102 27) 900 = true := by rw [h1]; exact inI (by omega) (by decide)
    refine ⟨τ', ?_, by rw [e2, show l + 1 + r = l + (r + 1) by omega], fun i hi => ?_, fun i hi => by rw [e4 i (by omega), wi_row (by decide), wi_ne (by omega)], fun k k1 k2 => by rw [e5 k k1 k2, wi_row k1, wi_row k2], fun i hi => by rw [e6 i hi, wi_ne hi, wi_row (by decide)], by rw [e7]; rfl⟩
    · rw [key, show l + (r + 1) = l + 1 + r by omega, ← e1]
      unfold f_X7_feed_76
      rw [n4, gd_t, g1, gd_t, nm_W, nm_W, show (4 : Int32) = I 4 from rfl, em, h1, show ix (I (l : Int)) = l from ixI (by omega)]
      unfold bq
      simp (disch := omega) only [↓reduceIte, gd_t, bd_s, nm_W, nm_I, I_add, I_sub, I_mul, I_neg, I_le_t, I_le_f, I_lt_t, I_lt_f, I_eq_t, I_eq_f, I_inb', I_ix', Int.toNat_natCast, decide_true, decide_false, Bool.not_false, Bool.not_true, if_true, if_false, wi_eq, wi_eq', wi_ne, wi_row, wi_2, N0, N1, N2, N3, N4, N5, N6, N7, N8, N9, N10, N11, N12, N13, N14, N15, N16, N17, N18, N19, N20, N21, N22, N23, N24, N25, N26, N27, N28, N29, N30, N31, N32, N33, N34, N35, N36, N37, N38, N39, N40, N41, N42, N43, N45, N48, N57, N59, N88, N89, N97, N99, N120, N121, N122, N179, N200, N255, N300, N400, N880, N900, N999, N1019, N50000000, N100000000, N1000000000, N2147483647, N2147483648, h1]
    · by_cases c0 : i = 0
      · rw [c0, e4 (l + 0) (by omega), wi_row (by decide)]
        exact wi_eq
      · obtain ⟨j, rfl⟩ : ∃ j, i = j + 1 := ⟨i - 1, by omega⟩
        rw [show l + (j + 1) = l + 1 + j by omega, e3 j (by omega), show q + 1 + j = q + (j + 1) by omega]
theorem m_feed (a b c d e : Int32) : MT (f_X6_feed a b c d e) (f_X7_feed a b c d e) := by
  intro σ τ B ⟨m, V, E, pres, kp, dd, p, L, W, dl, pl, et, bb, t, s, rd, h, n, g, hG⟩ hB
  have hG0 := hG
  obtain ⟨g1, g2, ⟨g3, g4⟩, ⟨g5, g6, g7⟩, ⟨g8, g9, g10⟩, ⟨⟨t1, t2, t3⟩, t4⟩, ⟨tp, p1, p2, p3, p4⟩⟩ := hG
  have m50 : m = 11 ∨ m = 24 := by omega
  by_cases c0 : tp + 20 ≤ 900
  · obtain ⟨σ', a1, a2, a3, a4, a5, a6, a7⟩ := feed_c (a := a) (b := b) (c := c) (d := d) (e := e) p2 c0
    obtain ⟨τ', b1, b2, b3, b4, b5, b6, b7⟩ := feed_l (a := a) (b := b) (c := c) (d := d) (e := e) 20 0 FU tp 0 (wi τ 102 0 (I 0)) rfl rfl (by decide) (by rw [wi_ne (by decide)]; exact p3) c0
    have c1 : ∀ k, k ≠ 1 → k ≠ 2 → σ'.1 k = σ.1 k := a5
    have e1 : ∀ k, k ≠ 102 → k ≠ 115 → τ'.1 k = τ.1 k := fun k k1 k2 => by rw [b5 k k1 k2, wi_row k1]
    have e2 : ∀ i, i ≠ 27 → i ≠ 0 → τ'.1 102 i = τ.1 102 i := fun i i1 i2 => by rw [b6 i i1, wi_ne i2]
    refine ⟨_, σ', τ', a1, ?_, ⟨m, V, E, pres, kp, dd, p, L, W, dl, pl, et, bb, t, s, rd, h, n, g, by rw [a7]; exact g1, by rw [a7]; exact g2, ⟨QQ_congr g3 (by omega) (fun k q1 q2 => c1 k (by omega) (by omega)) (fun k q1 q2 => c1 k (by omega) (by omega)) (fun i q1 q2 => e2 i (by omega) (by omega)) (e1 103 (by decide) (by decide)) (e1 104 (by decide) (by decide)) (e1 105 (by decide) (by decide)) (e1 112 (by decide) (by decide)), by omega⟩, ⟨by rw [c1 0 (by decide) (by decide)]; exact g5, by rw [e2 21 (by decide) (by decide)]; exact g6, g7⟩,
      ⟨by rw [c1 0 (by decide) (by decide)]; exact g8, by rw [e2 25 (by decide) (by decide)]; exact g9, fun q => ⟨(g10 q).1, KK_congr (g10 q).2 (by omega) (fun k q1 q2 => c1 k (by omega) (by omega)) (fun k q1 q2 => c1 k (by omega) (by omega)) (fun i q1 q2 => e2 i (by omega) (by omega)) (e1 103 (by decide) (by decide)) (e1 104 (by decide) (by decide)) (e1 105 (by decide) (by decide)) (e1 113 (by decide) (by decide))⟩⟩,
      ⟨⟨by rw [c1 0 (by decide) (by decide), e2 1 (by decide) (by decide)]; exact t1, fun q => ?_, fun q => ?_⟩, by rw [c1 0 (by decide) (by decide), e2 33 (by decide) (by decide)]; exact t4⟩, ⟨tp + 20, c0, a2, b2, fun i hi => ?_⟩⟩, ⟨fun k hk => c1 k (by omega) (by omega), by rw [a7]⟩, ⟨fun k hk => e1 k (by omega) (by omega), by rw [b7]; rfl⟩⟩
    · unfold f_X7_feed
      rw [nm_W, if_pos (show (wi τ 102 0 (0 : Int32)).1 102 27 + (20 : Int32) ≤ (900 : Int32) by
        rw [wi_ne (by decide), p3]; show I (tp : Int) + I 20 ≤ I 900; rw [I_add, I_le (by unfold R; omega) (by unfold R; omega)]; omega)]
      exact b1
    · rw [e2 2 (by decide) (by decide), a6 2 (by decide)]
      rw [c1 0 (by decide) (by decide)] at q
      exact t2 q
    · rw [e2 2 (by decide) (by decide)]
      rw [c1 0 (by decide) (by decide)] at q
      exact t3 q
    · by_cases ci : i < tp
      · rw [a4 i ci, b4 i ci, wi_row (by decide)]; exact p4 i ci
      · have q1 := a3 (i - tp) (by omega)
        have q2 := b3 (i - tp) (by omega)
        rw [show tp + (i - tp) = i by omega] at q1 q2
        rw [Nat.zero_add] at q2
        rw [q1, q2]
        exact ⟨rfl, bq_b _ _⟩
  · have e1 : f_X6_feed a b c d e σ = some (I (-1), σ) := by
      unfold f_X6_feed
      rw [if_neg (show ¬ σ.1 1 0 ≤ (880 : Int32) by rw [p2]; show ¬ I (tp : Int) ≤ I 880; rw [I_le (by unfold R; omega) (by unfold R; omega)]; omega)]
      rfl
    have e2 : f_X7_feed a b c d e τ = some (I (-1), wi τ 102 0 (I 0)) := by
      unfold f_X7_feed
      rw [nm_W, if_neg (show ¬ (wi τ 102 0 (0 : Int32)).1 102 27 + (20 : Int32) ≤ (900 : Int32) by
        rw [wi_ne (by decide), p3]; show ¬ I (tp : Int) + I 20 ≤ I 900; rw [I_add, I_le (by unfold R; omega) (by unfold R; omega)]; omega)]
      rfl
    exact ⟨I (-1), σ, _, e1, e2, told_ok (x := 0) ⟨m, V, E, pres, kp, dd, p, L, W, dl, pl, et, bb, t, s, rd, h, n, g, hG0⟩⟩
end
section
/-! PURE: part, whose answers may differ; dry -/
/-- as MT, but of the answers nothing is said -/
def ML (fc fr : Wd → Option (Int32 × Wd)) : Prop := ∀ (σ τ : Wd) (B : Int), GG σ τ B → B ≤ 200000 → ∃ (x y : Int32) (σ' τ' : Wd), fc σ = some (x, σ') ∧ fr τ = some (y, τ') ∧ GG σ' τ' (B + 200) ∧ CL_ σ σ' ∧ RL_ τ τ'
theorem tellP {σ : Wd} {v : Nat} {w : Int32} (hv : v < 5) : ∃ y, f_X4_tellPart 63 (I (v : Int)) w σ = some (y, σ) := by
  have iv : inb (I (v : Int)) 5 = true := inI hv (by decide)
  unfold f_X4_tellPart f_X4_tellPart_106
  simp only [iv, gd_t]
  by_cases c0 : w = (0 : Int32)
  · rw [if_pos c0]; exact ⟨_, rfl⟩
  · rw [if_neg c0]
    by_cases c1 : w = (1 : Int32)
    · rw [if_pos c1]; exact ⟨_, rfl⟩
    · rw [if_neg c1]
      by_cases c2 : w = (2 : Int32)
      · rw [if_pos c2]; exact ⟨_, rfl⟩
      · rw [if_neg c2]
        by_cases c3 : w = (3 : Int32)
        · rw [if_pos c3]; exact ⟨_, rfl⟩
        · rw [if_neg c3]
          by_cases c4 : w = (4 : Int32)
          · rw [if_pos c4]; exact ⟨_, rfl⟩
          · rw [if_neg c4]
            by_cases c5 : w = (5 : Int32)
            · rw [if_pos c5]; exact ⟨_, rfl⟩
            · rw [if_neg c5]
              by_cases c6 : σ.1 (63 + 8) (ix (I (v : Int))) ≤ σ.1 63 1
              · rw [if_pos c6]; exact ⟨_, rfl⟩
              · rw [if_neg c6]; exact ⟨_, rfl⟩
theorem c_part {σ : Wd} {v w a c : Int} (e1 : f_X6_isVenue (I v) σ = some (I a, σ)) (e2 : f_X6_within (I w) (I 0) (I 6) σ = some (I c, σ)) (ha : 0 ≤ a ∧ a ≤ 1) (hc : 0 ≤ c ∧ c ≤ 1) : f_X6_part (I v) (I w) σ = f_X6_part_24 (I v) (I w) (I (a * c)) σ := by
  unfold f_X6_part f_X6_part_23
  by_cases c1 : a = 0
  · simp (disch := omega) only [↓reduceIte, gd_t, bd_s, nm_W, nm_I, I_add, I_sub, I_mul, I_neg, I_le_t, I_le_f, I_lt_t, I_lt_f, I_eq_t, I_eq_f, I_inb', I_ix', Int.toNat_natCast, decide_true, decide_false, Bool.not_false, Bool.not_true, if_true, if_false, wi_eq, wi_eq', wi_ne, wi_row, wi_2, N0, N1, N2, N3, N4, N5, N6, N7, N8, N9, N10, N11, N12, N13, N14, N15, N16, N17, N18, N19, N20, N21, N22, N23, N24, N25, N26, N27, N28, N29, N30, N31, N32, N33, N34, N35, N36, N37, N38, N39, N40, N41, N42, N43, N45, N48, N57, N59, N88, N89, N97, N99, N120, N121, N122, N179, N200, N255, N300, N400, N880, N900, N999, N1019, N50000000, N100000000, N1000000000, N2147483647, N2147483648, e1]
    rw [c1, Int.zero_mul]
  · have a1 : a = 1 := by omega
    by_cases c2 : c = 0
    · simp (disch := omega) only [↓reduceIte, gd_t, bd_s, nm_W, nm_I, I_add, I_sub, I_mul, I_neg, I_le_t, I_le_f, I_lt_t, I_lt_f, I_eq_t, I_eq_f, I_inb', I_ix', Int.toNat_natCast, decide_true, decide_false, Bool.not_false, Bool.not_true, if_true, if_false, wi_eq, wi_eq', wi_ne, wi_row, wi_2, N0, N1, N2, N3, N4, N5, N6, N7, N8, N9, N10, N11, N12, N13, N14, N15, N16, N17, N18, N19, N20, N21, N22, N23, N24, N25, N26, N27, N28, N29, N30, N31, N32, N33, N34, N35, N36, N37, N38, N39, N40, N41, N42, N43, N45, N48, N57, N59, N88, N89, N97, N99, N120, N121, N122, N179, N200, N255, N300, N400, N880, N900, N999, N1019, N50000000, N100000000, N1000000000, N2147483647, N2147483648, e1, e2]
      rw [c2, Int.mul_zero]
    · simp (disch := omega) only [↓reduceIte, gd_t, bd_s, nm_W, nm_I, I_add, I_sub, I_mul, I_neg, I_le_t, I_le_f, I_lt_t, I_lt_f, I_eq_t, I_eq_f, I_inb', I_ix', Int.toNat_natCast, decide_true, decide_false, Bool.not_false, Bool.not_true, if_true, if_false, wi_eq, wi_eq', wi_ne, wi_row, wi_2, N0, N1, N2, N3, N4, N5, N6, N7, N8, N9, N10, N11, N12, N13, N14, N15, N16, N17, N18, N19, N20, N21, N22, N23, N24, N25, N26, N27, N28, N29, N30, N31, N32, N33, N34, N35, N36, N37, N38, N39, N40, N41, N42, N43, N45, N48, N57, N59, N88, N89, N97, N99, N120, N121, N122, N179, N200, N255, N300, N400, N880, N900, N999, N1019, N50000000, N100000000, N1000000000, N2147483647, N2147483648, e1, e2]
      rw [a1, show c = 1 from by omega]
      rfl
theorem r_part {τ : Wd} {v w a c : Int} (e1 : f_X7_isVenue (I v) (wi τ 102 0 (I 0)) = some (I a, wi τ 102 0 (I 0))) (e2 : f_X7_in (I w) (I 0) (I 6) (wi τ 102 0 (I 0)) = some (I c, wi τ 102 0 (I 0))) (ha : 0 ≤ a ∧ a ≤ 1) (hc : 0 ≤ c ∧ c ≤ 1) : f_X7_part (I v) (I w) τ = f_X7_part_29 (I v) (I w) (I (a * c)) (wi τ 102 0 (I 0)) := by
  unfold f_X7_part f_X7_part_28
  by_cases c1 : a = 0
  · simp (disch := omega) only [↓reduceIte, gd_t, bd_s, nm_W, nm_I, I_add, I_sub, I_mul, I_neg, I_le_t, I_le_f, I_lt_t, I_lt_f, I_eq_t, I_eq_f, I_inb', I_ix', Int.toNat_natCast, decide_true, decide_false, Bool.not_false, Bool.not_true, if_true, if_false, wi_eq, wi_eq', wi_ne, wi_row, wi_2, N0, N1, N2, N3, N4, N5, N6, N7, N8, N9, N10, N11, N12, N13, N14, N15, N16, N17, N18, N19, N20, N21, N22, N23, N24, N25, N26, N27, N28, N29, N30, N31, N32, N33, N34, N35, N36, N37, N38, N39, N40, N41, N42, N43, N45, N48, N57, N59, N88, N89, N97, N99, N120, N121, N122, N179, N200, N255, N300, N400, N880, N900, N999, N1019, N50000000, N100000000, N1000000000, N2147483647, N2147483648, e1]
    rw [c1, Int.zero_mul]
  · have a1 : a = 1 := by omega
    by_cases c2 : c = 0
    · simp (disch := omega) only [↓reduceIte, gd_t, bd_s, nm_W, nm_I, I_add, I_sub, I_mul, I_neg, I_le_t, I_le_f, I_lt_t, I_lt_f, I_eq_t, I_eq_f, I_inb', I_ix', Int.toNat_natCast, decide_true, decide_false, Bool.not_false, Bool.not_true, if_true, if_false, wi_eq, wi_eq', wi_ne, wi_row, wi_2, N0, N1, N2, N3, N4, N5, N6, N7, N8, N9, N10, N11, N12, N13, N14, N15, N16, N17, N18, N19, N20, N21, N22, N23, N24, N25, N26, N27, N28, N29, N30, N31, N32, N33, N34, N35, N36, N37, N38, N39, N40, N41, N42, N43, N45, N48, N57, N59, N88, N89, N97, N99, N120, N121, N122, N179, N200, N255, N300, N400, N880, N900, N999, N1019, N50000000, N100000000, N1000000000, N2147483647, N2147483648, e1, e2]
      rw [c2, Int.mul_zero]
    · simp (disch := omega) only [↓reduceIte, gd_t, bd_s, nm_W, nm_I, I_add, I_sub, I_mul, I_neg, I_le_t, I_le_f, I_lt_t, I_lt_f, I_eq_t, I_eq_f, I_inb', I_ix', Int.toNat_natCast, decide_true, decide_false, Bool.not_false, Bool.not_true, if_true, if_false, wi_eq, wi_eq', wi_ne, wi_row, wi_2, N0, N1, N2, N3, N4, N5, N6, N7, N8, N9, N10, N11, N12, N13, N14, N15, N16, N17, N18, N19, N20, N21, N22, N23, N24, N25, N26, N27, N28, N29, N30, N31, N32, N33, N34, N35, N36, N37, N38, N39, N40, N41, N42, N43, N45, N48, N57, N59, N88, N89, N97, N99, N120, N121, N122, N179, N200, N255, N300, N400, N880, N900, N999, N1019, N50000000, N100000000, N1000000000, N2147483647, N2147483648, e1, e2]
      rw [a1, show c = 1 from by omega]
      rfl
theorem m_part (x y : Int32) : ML (f_X6_part x y) (f_X7_part x y) := by
  intro σ τ B ⟨m, V, E, pres, kp, d, p, L, W, dl, pl, et, b, t, s, rd, h, n, g, hG⟩ hB
  obtain ⟨v, rfl, hv⟩ := argI x
  obtain ⟨w, rfl, hw⟩ := argI y
  obtain ⟨bm, m10, m63⟩ := bMm hG.1
  have hM0 := hG.2.2.1.1.1
  have h5 := hM0.1.1
  have c1 := cIsV (σ := σ) hv hG.2.1 bm hM0.2.1.1 h5
  have c2 := rIsV (τ := wi τ 102 0 (I 0)) (V := V) (x := bn pres) hv (by rw [wi_ne (by decide)]; exact hG.2.2.2.1.2.1) (bn_bnd _) (by rw [wi_ne (by decide)]; exact hM0.2.2.1.1) h5
  have c3 := cWithin (σ := σ) (lo := 0) (hi := 6) hw (by unfold R; omega) (by unfold R; omega)
  have c4 := rIn (σ := wi τ 102 0 (I 0)) (lo := 0) (hi := 6) hw (by unfold R; omega) (by unfold R; omega)
  obtain ⟨ra, hra⟩ : ∃ ra, ra = τ.1 112 (48 + 8 * v.toNat + w.toNat) := ⟨_, rfl⟩
  have e0 := cGrant (σ := σ) (pres := pres) (a := bn (decide (0 ≤ v ∧ v < (V : Int)) && decide (0 ≤ w ∧ w ≤ 6))) (n := 1) (s := bn b) hG.2.2.2.1.1 (bn_bnd _) (by omega) (bn_bnd _)
  obtain ⟨x, σ', τ', k1, k2, k3, k4⟩ := run_ok (a := bn (decide (0 ≤ v ∧ v < (V : Int)) && decide (0 ≤ w ∧ w ≤ 6))) (a' := bn (decide (bn pres = 1 ∧ 0 ≤ v ∧ v < (V : Int)) && decide (0 ≤ w ∧ w ≤ 6))) (low := I (-2147483648)) (K := fun σ4 => some (ra, σ4)) (K' := fun σ2 => bd (f_X7_partIs (I v) (I w) σ2) fun r3 σ4 => bd (f_X7_good r3 σ4) fun r5 σ6 => (f_X7_part_55 r5 σ6)) (Rf := f_X7_refusedLow)
    hG (bn_bnd _) (bn_bnd _) (fun q => by
      rw [← bn_mul, ← bn_mul, isV_b rfl q]) (fun c τ => refL) (fun _ ha _ hQ => by
      have q : (decide (0 ≤ v ∧ v < (V : Int)) && decide (0 ≤ w ∧ w ≤ 6)) = true := by
        cases e : (decide (0 ≤ v ∧ v < (V : Int)) && decide (0 ≤ w ∧ w ≤ 6)) with
        | true => rfl
        | false => rw [e] at ha; cases ha
      obtain ⟨q1, q2⟩ := Bool.and_eq_true_iff.mp q
      have yv := of_decide_eq_true q1
      have yw := of_decide_eq_true q2
      obtain ⟨u, rfl⟩ := Int.eq_ofNat_of_zero_le yv.1
      obtain ⟨j, rfl⟩ := Int.eq_ofNat_of_zero_le yw.1
      have t1 : ((48 : Int) + 8 * (u : Int) + (j : Int)).toNat = 48 + 8 * u + j := by omega
      have hra : τ.1 112 (48 + 8 * u + j) = ra := hra.symm
      refine ⟨ra, _, wi τ 102 0 (I 0), rfl, ?_, QFr, RQr⟩
      show bd (f_X7_partIs (I (u : Int)) (I (j : Int)) (wi τ 102 0 (I 0))) (fun r3 σ4 => bd (f_X7_good r3 σ4) fun r5 σ6 => (f_X7_part_55 r5 σ6)) = _
      have e : f_X7_partIs (I (u : Int)) (I (j : Int)) (wi τ 102 0 (I 0)) = some (ra, wi τ 102 0 (I 0)) := by
        unfold f_X7_partIs f_X7_partAt
        clear hQ hG hM0
        simp (disch := omega) only [↓reduceIte, gd_t, bd_s, nm_W, nm_I, I_add, I_sub, I_mul, I_neg, I_le_t, I_le_f, I_lt_t, I_lt_f, I_eq_t, I_eq_f, I_inb', I_ix', Int.toNat_natCast, decide_true, decide_false, Bool.not_false, Bool.not_true, if_true, if_false, wi_eq, wi_eq', wi_ne, wi_row, wi_2, N0, N1, N2, N3, N4, N5, N6, N7, N8, N9, N10, N11, N12, N13, N14, N15, N16, N17, N18, N19, N20, N21, N22, N23, N24, N25, N26, N27, N28, N29, N30, N31, N32, N33, N34, N35, N36, N37, N38, N39, N40, N41, N42, N43, N45, N48, N57, N59, N88, N89, N97, N99, N120, N121, N122, N179, N200, N255, N300, N400, N880, N900, N999, N1019, N50000000, N100000000, N1000000000, N2147483647, N2147483648, t1, hra]
      rw [e, bd_s]
      rfl)
  have key : ∃ y, (bd (f_X6_granted (I (bn (decide (0 ≤ v ∧ v < (V : Int)) && decide (0 ≤ w ∧ w ≤ 6)))) (I 1) (σ.1 63 0) σ) fun r1 σ2 => if r1 = 0 then some (I (-2147483648), σ2) else (bd (f_X4_tellPart 63 (I v) (I w) σ2) fun r3 σ4 => some (r3, σ4))) = some (y, σ') := by
    rw [show σ.1 63 0 = I (bn b) from hG.2.2.1.1.2.2.1.1.1, e0, bd_s] at k1 ⊢
    by_cases c0 : tc pres (bn (decide (0 ≤ v ∧ v < (V : Int)) && decide (0 ≤ w ∧ w ≤ 6))) 1 (bn b) = 0
    · obtain ⟨-, x2, -⟩ := tc_0 c0
      rw [decide_eq_true c0, bn_t, if_neg (show ¬ I 1 = (0 : Int32) by decide)] at k1 ⊢
      have q1 : 0 ≤ v ∧ v < (V : Int) := by
        by_cases c : 0 ≤ v ∧ v < (V : Int)
        · exact c
        · rw [decide_eq_false c, Bool.false_and] at x2; exact absurd rfl x2
      obtain ⟨u, rfl⟩ := Int.eq_ofNat_of_zero_le q1.1
      obtain ⟨y, hy⟩ := tellP (σ := wi σ 0 12 (I (tc pres (bn (decide (0 ≤ (u : Int) ∧ (u : Int) < (V : Int)) && decide (0 ≤ w ∧ w ≤ 6))) 1 (bn b)))) (w := I w) (show u < 5 by omega)
      obtain ⟨-, k1⟩ := Prod.mk.inj (Option.some.inj k1)
      exact ⟨y, by rw [hy, bd_s, k1]⟩
    · rw [decide_eq_false c0, bn_f, if_pos (show I 0 = (0 : Int32) from rfl)] at k1 ⊢
      obtain ⟨-, k1⟩ := Prod.mk.inj (Option.some.inj k1)
      exact ⟨_, by rw [k1]⟩
  obtain ⟨y, key⟩ := key
  refine ⟨y, x, σ', τ', ?_, ?_, ⟨m, V, E, pres, kp, d, p, L, W, dl, pl, et, b, t, s, rd, h, n, g, GA_B k3 (by omega)⟩, k4⟩
  · rw [c_part c1 c3 (bn_bnd _) (bn_bnd _), bn_mul]
    exact key
  · rw [r_part c2 c4 (bn_bnd _) (bn_bnd _), bn_mul]
    exact k2
/-! dry: -1 stands for what the class throws; the reference tells it at 102, 0 -/
theorem dry_l {m V : Nat} {d : MD} {σ τ : Wd} {p a : Int} (hd : MDok d V) (hc : CV m σ V d) (hr : RV τ V d) (hm : σ.2.2 0 4 = m) (bm : bM m = true) (hp : R p) (c1 : σ.1 m 1 = I p) (e12 : τ.1 102 12 = I p) (e21 : τ.1 102 21 = I 1) (e0 : τ.1 102 0 = I 0) (ha : R a) : ∀ (r v n n' : Nat) (z x : Int), z = (v : Int) → v + r = V → r < n → r < n' → 0 ≤ x → x ≤ z →
    (f_X6_dry_4 n (I a) (I x) (I z) σ = some (I (-1), σ) ∧ f_X7_dry_9 n' (I a) (I x) (I z) τ = some (I 0, wi τ 102 0 (I 1))) ∨ (∃ u : Nat, u < V ∧ f_X6_dry_4 n (I a) (I x) (I z) σ = some (I (u : Int), σ) ∧ f_X7_dry_9 n' (I a) (I x) (I z) τ = some (I (u : Int), τ))
  | 0, v, n + 1, n' + 1, z, x, hz, hv, _, _, x0, x1 => by
    have h5 := hd.1
    have c3 := hc.1
    have e14 := hr.1
    refine Or.inl ⟨?_, ?_⟩
    · rw [f_X6_dry_4]
      clear hc hr hd
      simp (disch := omega) only [↓reduceIte, gd_t, bd_s, nm_W, nm_I, I_add, I_sub, I_mul, I_neg, I_le_t, I_le_f, I_lt_t, I_lt_f, I_eq_t, I_eq_f, I_inb', I_ix', Int.toNat_natCast, decide_true, decide_false, Bool.not_false, Bool.not_true, if_true, if_false, wi_eq, wi_eq', wi_ne, wi_row, wi_2, N0, N1, N2, N3, N4, N5, N6, N7, N8, N9, N10, N11, N12, N13, N14, N15, N16, N17, N18, N19, N20, N21, N22, N23, N24, N25, N26, N27, N28, N29, N30, N31, N32, N33, N34, N35, N36, N37, N38, N39, N40, N41, N42, N43, N45, N48, N57, N59, N88, N89, N97, N99, N120, N121, N122, N179, N200, N255, N300, N400, N880, N900, N999, N1019, N50000000, N100000000, N1000000000, N2147483647, N2147483648, hm, bm, c3]
    · rw [f_X7_dry_9]
      unfold f_X7_dry_56
      clear hc hr hd
      simp (disch := omega) only [↓reduceIte, gd_t, bd_s, nm_W, nm_I, I_add, I_sub, I_mul, I_neg, I_le_t, I_le_f, I_lt_t, I_lt_f, I_eq_t, I_eq_f, I_inb', I_ix', Int.toNat_natCast, decide_true, decide_false, Bool.not_false, Bool.not_true, if_true, if_false, wi_eq, wi_eq', wi_ne, wi_row, wi_2, N0, N1, N2, N3, N4, N5, N6, N7, N8, N9, N10, N11, N12, N13, N14, N15, N16, N17, N18, N19, N20, N21, N22, N23, N24, N25, N26, N27, N28, N29, N30, N31, N32, N33, N34, N35, N36, N37, N38, N39, N40, N41, N42, N43, N45, N48, N57, N59, N88, N89, N97, N99, N120, N121, N122, N179, N200, N255, N300, N400, N880, N900, N999, N1019, N50000000, N100000000, N1000000000, N2147483647, N2147483648, e21, e14]
  | r + 1, v, n + 1, n' + 1, z, x, hz, hv, hn1, hn2, x0, x1 => by
    have h5 := hd.1
    have c3 := hc.1
    have e14 := hr.1
    have vV : v < V := by omega
    subst hz
    have d1 : f_X3_depthOf m (I (v : Int)) σ = some (I (dep d p v), σ) := cDepth hc hd vV hp c1
    have d2 : f_X7_depth (I (v : Int)) τ = some (I (dep d p v), τ) := rDepth hr hd vV hp e12
    have db := dep_bnd hd vV (p := p)
    have lb := (hd.2 v vV).2.1
    have l1 : σ.1 (m + 2) v = I (d.lo v) := (hc.2 v vV).2.1
    have l2 : f_X7_lot (I (v : Int)) τ = some (I (d.lo v), τ) := rLot hr hd vV
    obtain ⟨D, hD⟩ : ∃ D, D = dep d p v := ⟨_, rfl⟩
    obtain ⟨l, hl⟩ : ∃ l, l = d.lo v := ⟨_, rfl⟩
    rw [← hD] at d1 d2 db
    have lb : 1 ≤ d.lo v ∧ d.lo v ≤ 20 := lb
    rw [← hl] at l1 l2 lb
    unfold R at ha
    have ih := fun x x0 x1 => dry_l hd hc hr hm bm hp c1 e12 e21 e0 (show R a from ha) r (v + 1) n n' ((v : Int) + 1) x (by omega) (by omega) (by omega) (by omega) x0 x1
    by_cases cD : l ≤ D
    · have s1 : f_X6_dry_4 (n + 1) (I a) (I x) (I (v : Int)) σ = f_X6_dry_4 n (I a) (I x) (I ((v : Int) + 1)) σ := by
        rw [f_X6_dry_4]
        clear hc hr hd ih hD hl
        simp (disch := omega) only [↓reduceIte, gd_t, bd_s, nm_W, nm_I, I_add, I_sub, I_mul, I_neg, I_le_t, I_le_f, I_lt_t, I_lt_f, I_eq_t, I_eq_f, I_inb', I_ix', Int.toNat_natCast, decide_true, decide_false, Bool.not_false, Bool.not_true, if_true, if_false, wi_eq, wi_eq', wi_ne, wi_row, wi_2, N0, N1, N2, N3, N4, N5, N6, N7, N8, N9, N10, N11, N12, N13, N14, N15, N16, N17, N18, N19, N20, N21, N22, N23, N24, N25, N26, N27, N28, N29, N30, N31, N32, N33, N34, N35, N36, N37, N38, N39, N40, N41, N42, N43, N45, N48, N57, N59, N88, N89, N97, N99, N120, N121, N122, N179, N200, N255, N300, N400, N880, N900, N999, N1019, N50000000, N100000000, N1000000000, N2147483647, N2147483648, hm, bm, c3, d1, l1, f_X6_dry_45]
      have s2 : f_X7_dry_9 (n' + 1) (I a) (I x) (I (v : Int)) τ = f_X7_dry_9 n' (I a) (I x) (I ((v : Int) + 1)) τ := by
        rw [f_X7_dry_9]
        clear hc hr hd ih hD hl
        simp (disch := omega) only [↓reduceIte, gd_t, bd_s, nm_W, nm_I, I_add, I_sub, I_mul, I_neg, I_le_t, I_le_f, I_lt_t, I_lt_f, I_eq_t, I_eq_f, I_inb', I_ix', Int.toNat_natCast, decide_true, decide_false, Bool.not_false, Bool.not_true, if_true, if_false, wi_eq, wi_eq', wi_ne, wi_row, wi_2, N0, N1, N2, N3, N4, N5, N6, N7, N8, N9, N10, N11, N12, N13, N14, N15, N16, N17, N18, N19, N20, N21, N22, N23, N24, N25, N26, N27, N28, N29, N30, N31, N32, N33, N34, N35, N36, N37, N38, N39, N40, N41, N42, N43, N45, N48, N57, N59, N88, N89, N97, N99, N120, N121, N122, N179, N200, N255, N300, N400, N880, N900, N999, N1019, N50000000, N100000000, N1000000000, N2147483647, N2147483648, e21, e14, d2, l2, f_X7_dry_50]
      rw [s1, s2]
      exact ih x x0 (by omega)
    · by_cases cx : x = a
      · refine Or.inr ⟨v, vV, ?_, ?_⟩
        · have nv : ¬ I (v : Int) = I (-1) := by rw [I_eq (by unfold R; omega) (by unfold R; omega)]; omega
          rw [f_X6_dry_4]
          clear hc hr hd ih hD hl
          simp (disch := omega) only [↓reduceIte, gd_t, bd_s, nm_W, nm_I, I_add, I_sub, I_mul, I_neg, I_le_t, I_le_f, I_lt_t, I_lt_f, I_eq_t, I_eq_f, I_inb', I_ix', Int.toNat_natCast, decide_true, decide_false, Bool.not_false, Bool.not_true, if_true, if_false, wi_eq, wi_eq', wi_ne, wi_row, wi_2, N0, N1, N2, N3, N4, N5, N6, N7, N8, N9, N10, N11, N12, N13, N14, N15, N16, N17, N18, N19, N20, N21, N22, N23, N24, N25, N26, N27, N28, N29, N30, N31, N32, N33, N34, N35, N36, N37, N38, N39, N40, N41, N42, N43, N45, N48, N57, N59, N88, N89, N97, N99, N120, N121, N122, N179, N200, N255, N300, N400, N880, N900, N999, N1019, N50000000, N100000000, N1000000000, N2147483647, N2147483648, hm, bm, c3, d1, l1]
        · rw [f_X7_dry_9]
          clear hc hr hd ih hD hl
          simp (disch := omega) only [↓reduceIte, gd_t, bd_s, nm_W, nm_I, I_add, I_sub, I_mul, I_neg, I_le_t, I_le_f, I_lt_t, I_lt_f, I_eq_t, I_eq_f, I_inb', I_ix', Int.toNat_natCast, decide_true, decide_false, Bool.not_false, Bool.not_true, if_true, if_false, wi_eq, wi_eq', wi_ne, wi_row, wi_2, N0, N1, N2, N3, N4, N5, N6, N7, N8, N9, N10, N11, N12, N13, N14, N15, N16, N17, N18, N19, N20, N21, N22, N23, N24, N25, N26, N27, N28, N29, N30, N31, N32, N33, N34, N35, N36, N37, N38, N39, N40, N41, N42, N43, N45, N48, N57, N59, N88, N89, N97, N99, N120, N121, N122, N179, N200, N255, N300, N400, N880, N900, N999, N1019, N50000000, N100000000, N1000000000, N2147483647, N2147483648, e21, e14, d2, l2]
      · have s1 : f_X6_dry_4 (n + 1) (I a) (I x) (I (v : Int)) σ = f_X6_dry_4 n (I a) (I (x + 1)) (I ((v : Int) + 1)) σ := by
          rw [f_X6_dry_4]
          clear hc hr hd ih hD hl
          simp (disch := omega) only [↓reduceIte, gd_t, bd_s, nm_W, nm_I, I_add, I_sub, I_mul, I_neg, I_le_t, I_le_f, I_lt_t, I_lt_f, I_eq_t, I_eq_f, I_inb', I_ix', Int.toNat_natCast, decide_true, decide_false, Bool.not_false, Bool.not_true, if_true, if_false, wi_eq, wi_eq', wi_ne, wi_row, wi_2, N0, N1, N2, N3, N4, N5, N6, N7, N8, N9, N10, N11, N12, N13, N14, N15, N16, N17, N18, N19, N20, N21, N22, N23, N24, N25, N26, N27, N28, N29, N30, N31, N32, N33, N34, N35, N36, N37, N38, N39, N40, N41, N42, N43, N45, N48, N57, N59, N88, N89, N97, N99, N120, N121, N122, N179, N200, N255, N300, N400, N880, N900, N999, N1019, N50000000, N100000000, N1000000000, N2147483647, N2147483648, hm, bm, c3, d1, l1, f_X6_dry_45]
        have s2 : f_X7_dry_9 (n' + 1) (I a) (I x) (I (v : Int)) τ = f_X7_dry_9 n' (I a) (I (x + 1)) (I ((v : Int) + 1)) τ := by
          rw [f_X7_dry_9]
          clear hc hr hd ih hD hl
          simp (disch := omega) only [↓reduceIte, gd_t, bd_s, nm_W, nm_I, I_add, I_sub, I_mul, I_neg, I_le_t, I_le_f, I_lt_t, I_lt_f, I_eq_t, I_eq_f, I_inb', I_ix', Int.toNat_natCast, decide_true, decide_false, Bool.not_false, Bool.not_true, if_true, if_false, wi_eq, wi_eq', wi_ne, wi_row, wi_2, N0, N1, N2, N3, N4, N5, N6, N7, N8, N9, N10, N11, N12, N13, N14, N15, N16, N17, N18, N19, N20, N21, N22, N23, N24, N25, N26, N27, N28, N29, N30, N31, N32, N33, N34, N35, N36, N37, N38, N39, N40, N41, N42, N43, N45, N48, N57, N59, N88, N89, N97, N99, N120, N121, N122, N179, N200, N255, N300, N400, N880, N900, N999, N1019, N50000000, N100000000, N1000000000, N2147483647, N2147483648, e21, e14, d2, l2, f_X7_dry_50]
        rw [s1, s2]
        exact ih (x + 1) (by omega) (by omega)
/-- what a dry says: both a venue, or both none -/
def MD_ (a : Int32) : Prop := ∀ (σ τ : Wd) (B : Int), GG σ τ B → ∃ (x y : Int32) (τ' : Wd), f_X6_dry a σ = some (x, σ) ∧ f_X7_dry a τ = some (y, τ') ∧ GG σ τ' (B + 200) ∧ RL_ τ τ' ∧ τ'.2 = τ.2 ∧ ((x = I (-1) ∧ τ'.1 102 0 = I 1) ∨ (x ≠ I (-1) ∧ τ'.1 102 0 = I 0 ∧ y = x))
theorem m_dry (a : Int32) : MD_ a := by
  intro σ τ B hG
  have tk := told_ok (x := 0) hG
  obtain ⟨m, V, E, pres, kp, d, p, L, W, dl, pl, et, b, t, s, rd, h, n, g, hG⟩ := hG
  obtain ⟨a, rfl, ha⟩ := argI a
  obtain ⟨bm, m10, m63⟩ := bMm hG.1
  have hM := hG.2.2.1.1.1
  have h5 := hM.1.1
  have g21 := hG.2.2.2.1.2.1
  have tB := hG.2.2.1.2
  have z0 : (wi τ 102 0 (I 0)).1 102 0 = I 0 := wi_eq
  have GA1 : GG σ (wi (wi τ 102 0 (I 0)) 102 0 (I 1)) (B + 200) := ⟨m, V, E, pres, kp, d, p, L, W, dl, pl, et, b, t, s, rd, h, n, g, GA_B (GA_t hG (fun k hk => by rw [wi_row hk, wi_row hk]) (fun i hi => by rw [wi_ne hi, wi_ne hi])) (by omega)⟩
  have RL1 : RL_ τ (wi (wi τ 102 0 (I 0)) 102 0 (I 1)) := ⟨fun k hk => by rw [wi_row (by omega), wi_row (by omega)], rfl⟩
  cases hp : pres with
  | false =>
    have V0 := (hG.2.2.2.1.2.2 hp).1
    have c3 : σ.1 m 3 = I 0 := by have := hM.2.1.1; rw [V0] at this; exact this
    rw [hp] at g21
    have g21 : τ.1 102 21 = I 0 := g21
    have hm := hG.2.1
    refine ⟨I (-1), I 0, _, ?_, ?_, GA1, RL1, rfl, Or.inl ⟨rfl, wi_eq⟩⟩
    · unfold f_X6_dry
      rw [show FU = 5999 + 1 from rfl, f_X6_dry_4]
      clear hG hM GA1 RL1 tk
      simp (disch := omega) only [↓reduceIte, gd_t, bd_s, nm_W, nm_I, I_add, I_sub, I_mul, I_neg, I_le_t, I_le_f, I_lt_t, I_lt_f, I_eq_t, I_eq_f, I_inb', I_ix', Int.toNat_natCast, decide_true, decide_false, Bool.not_false, Bool.not_true, if_true, if_false, wi_eq, wi_eq', wi_ne, wi_row, wi_2, N0, N1, N2, N3, N4, N5, N6, N7, N8, N9, N10, N11, N12, N13, N14, N15, N16, N17, N18, N19, N20, N21, N22, N23, N24, N25, N26, N27, N28, N29, N30, N31, N32, N33, N34, N35, N36, N37, N38, N39, N40, N41, N42, N43, N45, N48, N57, N59, N88, N89, N97, N99, N120, N121, N122, N179, N200, N255, N300, N400, N880, N900, N999, N1019, N50000000, N100000000, N1000000000, N2147483647, N2147483648, hm, bm, c3]
    · unfold f_X7_dry
      rw [show FU = 5999 + 1 from rfl, f_X7_dry_9]
      unfold f_X7_dry_56
      clear hG hM GA1 RL1 tk
      simp (disch := omega) only [↓reduceIte, gd_t, bd_s, nm_W, nm_I, I_add, I_sub, I_mul, I_neg, I_le_t, I_le_f, I_lt_t, I_lt_f, I_eq_t, I_eq_f, I_inb', I_ix', Int.toNat_natCast, decide_true, decide_false, Bool.not_false, Bool.not_true, if_true, if_false, wi_eq, wi_eq', wi_ne, wi_row, wi_2, N0, N1, N2, N3, N4, N5, N6, N7, N8, N9, N10, N11, N12, N13, N14, N15, N16, N17, N18, N19, N20, N21, N22, N23, N24, N25, N26, N27, N28, N29, N30, N31, N32, N33, N34, N35, N36, N37, N38, N39, N40, N41, N42, N43, N45, N48, N57, N59, N88, N89, N97, N99, N120, N121, N122, N179, N200, N255, N300, N400, N880, N900, N999, N1019, N50000000, N100000000, N1000000000, N2147483647, N2147483648, g21]
  | true =>
    rw [hp] at g21
    have g21 : τ.1 102 21 = I 1 := g21
    rcases dry_l (a := a) hM.1 hM.2.1 (RV_congr hM.2.2.1 (by rw [wi_ne (by decide)]) (wi_row (by decide)) (wi_row (by decide)) (wi_row (by decide)) : RV (wi τ 102 0 (I 0)) V d) hG.2.1 bm (QM_p hM) hM.2.2.2.1.1 (by rw [wi_ne (by decide)]; exact hM.2.2.2.1.2.1) (by rw [wi_ne (by decide)]; exact g21) z0 ha V 0 FU FU 0 0 rfl (by omega) (by show _ < 6000; omega) (by show _ < 6000; omega) (by omega) (by omega) with ⟨q1, q2⟩ | ⟨u, hu, q1, q2⟩
    · exact ⟨I (-1), I 0, _, q1, q2, GA1, RL1, rfl, Or.inl ⟨rfl, wi_eq⟩⟩
    · exact ⟨I (u : Int), I (u : Int), _, q1, q2, tk.1, tk.2.2, rfl, Or.inr ⟨fun q => by
        rw [I_eq (by unfold R; omega) (by unfold R; omega)] at q
        omega, z0, rfl⟩⟩
end
section
/-! PURE: resize, call -/
theorem resize_1 {τ : Wd} {v k q : Int} (e : f_X7_isVenue (I v) (wi τ 102 0 (I 0)) = some (I 0, wi τ 102 0 (I 0))) : f_X7_resize (I v) (I k) (I q) τ = some (I (-1), refW τ (I 1)) := by
  unfold f_X7_resize refW f_X7_resize_28
  simp (disch := omega) only [↓reduceIte, gd_t, bd_s, nm_W, nm_I, I_add, I_sub, I_mul, I_neg, I_le_t, I_le_f, I_lt_t, I_lt_f, I_eq_t, I_eq_f, I_inb', I_ix', Int.toNat_natCast, decide_true, decide_false, Bool.not_false, Bool.not_true, if_true, if_false, wi_eq, wi_eq', wi_ne, wi_row, wi_2, N0, N1, N2, N3, N4, N5, N6, N7, N8, N9, N10, N11, N12, N13, N14, N15, N16, N17, N18, N19, N20, N21, N22, N23, N24, N25, N26, N27, N28, N29, N30, N31, N32, N33, N34, N35, N36, N37, N38, N39, N40, N41, N42, N43, N45, N48, N57, N59, N88, N89, N97, N99, N120, N121, N122, N179, N200, N255, N300, N400, N880, N900, N999, N1019, N50000000, N100000000, N1000000000, N2147483647, N2147483648, e, refR]
theorem resize_2 {τ : Wd} {v : Nat} {k q l a c : Int} (v5 : v < 5) (e : f_X7_isVenue (I (v : Int)) (wi τ 102 0 (I 0)) = some (I 1, wi τ 102 0 (I 0))) (h4 : τ.1 103 (5 * v + 4) = I l) (e2 : f_X7_in (I k) (I 0) (I (l - 1)) (wi τ 102 0 (I 0)) = some (I a, wi τ 102 0 (I 0))) (e3 : f_X7_in (I q) (I 0) (I 99) (wi τ 102 0 (I 0)) = some (I c, wi τ 102 0 (I 0))) (h : a = 0 ∨ (a = 1 ∧ c = 0)) : f_X7_resize (I (v : Int)) (I k) (I q) τ = some (I (-1), refW τ (I (if a = 0 then 1 else 2))) := by
  have tv := levels7 (σ := wi τ 102 0 (I 0)) v5
  rw [wi_row (by decide), h4] at tv
  rcases h with h | ⟨h, h2⟩
  · rw [if_pos h]
    unfold f_X7_resize refW f_X7_resize_28
    simp (disch := omega) only [↓reduceIte, gd_t, bd_s, nm_W, nm_I, I_add, I_sub, I_mul, I_neg, I_le_t, I_le_f, I_lt_t, I_lt_f, I_eq_t, I_eq_f, I_inb', I_ix', Int.toNat_natCast, decide_true, decide_false, Bool.not_false, Bool.not_true, if_true, if_false, wi_eq, wi_eq', wi_ne, wi_row, wi_2, N0, N1, N2, N3, N4, N5, N6, N7, N8, N9, N10, N11, N12, N13, N14, N15, N16, N17, N18, N19, N20, N21, N22, N23, N24, N25, N26, N27, N28, N29, N30, N31, N32, N33, N34, N35, N36, N37, N38, N39, N40, N41, N42, N43, N45, N48, N57, N59, N88, N89, N97, N99, N120, N121, N122, N179, N200, N255, N300, N400, N880, N900, N999, N1019, N50000000, N100000000, N1000000000, N2147483647, N2147483648, e, tv, e2, refR]
  · rw [if_neg (by omega)]
    unfold f_X7_resize refW
    simp (disch := omega) only [↓reduceIte, gd_t, bd_s, nm_W, nm_I, I_add, I_sub, I_mul, I_neg, I_le_t, I_le_f, I_lt_t, I_lt_f, I_eq_t, I_eq_f, I_inb', I_ix', Int.toNat_natCast, decide_true, decide_false, Bool.not_false, Bool.not_true, if_true, if_false, wi_eq, wi_eq', wi_ne, wi_row, wi_2, N0, N1, N2, N3, N4, N5, N6, N7, N8, N9, N10, N11, N12, N13, N14, N15, N16, N17, N18, N19, N20, N21, N22, N23, N24, N25, N26, N27, N28, N29, N30, N31, N32, N33, N34, N35, N36, N37, N38, N39, N40, N41, N42, N43, N45, N48, N57, N59, N88, N89, N97, N99, N120, N121, N122, N179, N200, N255, N300, N400, N880, N900, N999, N1019, N50000000, N100000000, N1000000000, N2147483647, N2147483648, e, tv, e2, e3, refR]
theorem resize_3 {τ : Wd} {v k : Nat} {q l y : Int} (v5 : v < 5) (k6 : k < 6) (e : f_X7_isVenue (I (v : Int)) (wi τ 102 0 (I 0)) = some (I 1, wi τ 102 0 (I 0))) (h4 : τ.1 103 (5 * v + 4) = I l) (e2 : f_X7_in (I (k : Int)) (I 0) (I (l - 1)) (wi τ 102 0 (I 0)) = some (I 1, wi τ 102 0 (I 0))) (e3 : f_X7_in (I q) (I 0) (I 99) (wi τ 102 0 (I 0)) = some (I 1, wi τ 102 0 (I 0))) (hy : τ.1 112 (6 * v + k) = I y) :
    f_X7_resize (I (v : Int)) (I (k : Int)) (I q) τ = some (I y, wi (wi (wi (wi τ 102 0 (I 0)) 112 (6 * v + k) (I q)) 102 1 (I 0)) 102 2 (I (-1))) := by
  have tv := levels7 (σ := wi τ 102 0 (I 0)) v5
  rw [wi_row (by decide), h4] at tv
  have s7 := size7 (σ := wi τ 102 0 (I 0)) v5 k6
  rw [wi_row (by decide), hy] at s7
  have t2 : ((0 : Int) + 6 * (v : Int) + (k : Int)).toNat = 6 * v + k := by omega
  unfold f_X7_resize
  simp (disch := omega) only [↓reduceIte, gd_t, bd_s, nm_W, nm_I, I_add, I_sub, I_mul, I_neg, I_le_t, I_le_f, I_lt_t, I_lt_f, I_eq_t, I_eq_f, I_inb', I_ix', Int.toNat_natCast, decide_true, decide_false, Bool.not_false, Bool.not_true, if_true, if_false, wi_eq, wi_eq', wi_ne, wi_row, wi_2, N0, N1, N2, N3, N4, N5, N6, N7, N8, N9, N10, N11, N12, N13, N14, N15, N16, N17, N18, N19, N20, N21, N22, N23, N24, N25, N26, N27, N28, N29, N30, N31, N32, N33, N34, N35, N36, N37, N38, N39, N40, N41, N42, N43, N45, N48, N57, N59, N88, N89, N97, N99, N120, N121, N122, N179, N200, N255, N300, N400, N880, N900, N999, N1019, N50000000, N100000000, N1000000000, N2147483647, N2147483648, e, tv, e2, e3, s7, t2, goodR]
set_option maxHeartbeats 1000000 in
theorem m_resize (x y z : Int32) : MT (f_X6_resize x y z) (f_X7_resize x y z) := by
  intro σ τ B ⟨m, V, E, pres, kp, d, p, L, W, dl, pl, et, b, t, s, rd, h, n, g, hG⟩ hB
  obtain ⟨v, rfl, hv⟩ := argI x
  obtain ⟨k, rfl, hk⟩ := argI y
  obtain ⟨q, rfl, hq⟩ := argI z
  obtain ⟨bm, m10, m63⟩ := bMm hG.1
  have m24 : m = 11 ∨ m = 24 := by have := hG.1; omega
  have hQ := hG.2.2.1.1
  have hM0 := hQ.1
  have h5 := hM0.1.1
  have g21 : (wi τ 102 0 (I 0)).1 102 21 = I (bn pres) := by rw [wi_ne (by decide)]; exact hG.2.2.2.1.2.1
  have g14 : (wi τ 102 0 (I 0)).1 102 14 = I (V : Int) := by rw [wi_ne (by decide)]; exact hM0.2.2.1.1
  have c1 := cIsV (σ := σ) hv hG.2.1 bm hM0.2.1.1 h5
  obtain ⟨l, hl⟩ : ∃ l : Nat, l = if 0 ≤ v ∧ v < (V : Int) then d.lv v.toNat else 0 := ⟨_, rfl⟩
  have lb : l ≤ 6 := by
    split at hl
    · rw [hl]; exact lv6 hM0.1 _ (by omega)
    · omega
  have lv : 0 ≤ v ∧ v < (V : Int) → l = d.lv v.toNat := fun q => by rw [hl, if_pos q]
  have c2 := c_isLevel (k := k) (l := (l : Int)) hG.2.1 bm c1 (bn_bnd _) hk (fun q => by have := bn_1 q; omega) (fun q => by have y := bn_1 q; rw [lv y]; exact (hM0.2.1.2 v.toNat (by omega)).2.2.2.2.1) (by omega)
  have c3 := cWithin (σ := σ) (lo := 0) (hi := 99) hq (by unfold R; omega) (by unfold R; omega)
  have ri : f_X7_in (I k) (I 0) (I ((l : Int) - 1)) (wi τ 102 0 (I 0)) = some (I (bn (decide (0 ≤ k ∧ k ≤ (l : Int) - 1))), wi τ 102 0 (I 0)) := rIn hk (by unfold R; omega) (by unfold R; omega)
  have rq := rIn (σ := wi τ 102 0 (I 0)) (lo := 0) (hi := 99) hq (by unfold R; omega) (by unfold R; omega)
  obtain ⟨x, σ', τ', k1, k2, k3⟩ := act_ok (B' := B + 200) (a := bn (decide (bn (decide (0 ≤ v ∧ v < (V : Int))) = 1 ∧ 0 ≤ k ∧ k < (l : Int)))) (nn := bn (decide (0 ≤ q ∧ q ≤ 99))) (ss := 1) (low := I (-1)) (K := fun σ6 => bd (f_X6_slot (I v) (I k) σ6) fun r7 σ8 => gd (bM (σ8.2.2 0 4)) (gd (inb r7 30) (gd (bM (σ8.2.2 0 4)) (gd (inb r7 30) (nmW (wi σ8 ((σ8.2.2 0 4) + 9) (ix r7) (I q)) fun σ11 => some (σ8.1 ((σ8.2.2 0 4) + 9) (ix r7), σ11)))))) (fr := f_X7_resize (I v) (I k) (I q))
    hG (by omega) (bn_bnd _) (bn_bnd _) (by omega)
    (fun hc => by
      rcases tc_cases (pres := pres) (a := bn (decide (bn (decide (0 ≤ v ∧ v < (V : Int))) = 1 ∧ 0 ≤ k ∧ k < (l : Int)))) (n := bn (decide (0 ≤ q ∧ q ≤ 99))) (s := 1) with ⟨q1, q2⟩ | ⟨q1, q2, q3⟩ | ⟨q1, q2, q3, q4⟩ | ⟨-, -, -, q2, -⟩ | ⟨-, -, -, -, q2⟩
      · rw [q2]; exact resize_1 (rIsV0 hv g21 (bn_bnd _) g14 h5 (Or.inl (by rw [q1]; rfl)))
      · rw [q3]
        by_cases y : 0 ≤ v ∧ v < (V : Int)
        · have ev := rIsV1 (τ := wi τ 102 0 (I 0)) (x := bn pres) hv g21 (by rw [q1]; rfl) g14 h5 y.1 y.2
          have lv := lv y
          obtain ⟨u, rfl⟩ := Int.eq_ofNat_of_zero_le y.1
          have kn : ¬ (0 ≤ k ∧ k ≤ (l : Int) - 1) := fun w1 => by
            rw [decide_eq_true y, decide_eq_true (show bn true = 1 ∧ 0 ≤ k ∧ k < (l : Int) from ⟨rfl, by omega, by omega⟩)] at q2
            cases q2
          have e := resize_2 (q := q) (l := (l : Int)) (by omega) ev (by rw [lv, Int.toNat_natCast]; exact (hM0.2.2.1.2 u (by omega)).2.2.2.2.1) ri rq (Or.inl (by rw [decide_eq_false kn]; rfl))
          rw [e, if_pos (by rw [decide_eq_false kn]; rfl)]
          rfl
        · exact resize_1 (rIsV0 hv g21 (bn_bnd _) g14 h5 (Or.inr y))
      · have q2 := bn_n0 q2
        have y := bn_1 q2.1
        have ev := rIsV1 (τ := wi τ 102 0 (I 0)) (x := bn pres) hv g21 (by rw [q1]; rfl) g14 h5 y.1 y.2
        have lv := lv y
        obtain ⟨u, rfl⟩ := Int.eq_ofNat_of_zero_le y.1
        have w1 : 0 ≤ k ∧ k ≤ (l : Int) - 1 := by omega
        have e := resize_2 (q := q) (l := (l : Int)) (by omega) ev (by rw [lv, Int.toNat_natCast]; exact (hM0.2.2.1.2 u (by omega)).2.2.2.2.1) ri rq (Or.inr ⟨by rw [decide_eq_true w1]; rfl, q3⟩)
        rw [q4, e, if_neg (by rw [decide_eq_true w1]; decide)]
        rfl
      · omega
      · exact absurd q2 hc)
    (fun hp ha hn _ => by
      obtain ⟨q3, k0, kl⟩ := bn_1 ha
      have yq := bn_1 hn
      have y := bn_1 q3
      have ev := rIsV1 (τ := wi τ 102 0 (I 0)) (x := bn pres) hv g21 (by rw [hp]; rfl) g14 h5 y.1 y.2
      have lv := lv y
      obtain ⟨u, rfl⟩ := Int.eq_ofNat_of_zero_le y.1
      obtain ⟨j, rfl⟩ := Int.eq_ofNat_of_zero_le k0
      have hu : u < V := by omega
      rw [Int.toNat_natCast] at lv
      have hj : j < d.lv u := by omega
      have a2 := ((hM0.2.1.2 u hu).2.2.2.2.2 j hj).2
      have b2 := ((hM0.2.2.1.2 u hu).2.2.2.2.2 j hj).2
      have e := resize_3 (q := q) (l := (l : Int)) (k := j) (by omega) (by omega) ev (by rw [lv]; exact (hM0.2.2.1.2 u hu).2.2.2.2.1) (rIn1 hk (by unfold R; omega) (by unfold R; omega) ⟨by omega, by omega⟩) (rIn1 hq (by unfold R; omega) (by unfold R; omega) yq) b2
      obtain ⟨hM, hE, hR, hN, hP, hL, hn, hrd, hb, hz⟩ := hQ
      obtain ⟨τ', hτ'⟩ : ∃ x, x = wi (wi (wi (wi τ 102 0 (I 0)) 112 (6 * u + j) (I q)) 102 1 (I 0)) 102 2 (I (-1)) := ⟨_, rfl⟩
      obtain ⟨σ', hσ'⟩ : ∃ x, x = wi (wi σ 0 12 (I 0)) (m + 9) (6 * u + j) (I q) := ⟨_, rfl⟩
      have fc : ∀ k, k ≠ 0 → k ≠ m + 9 → σ'.1 k = σ.1 k := fun k g1 g2 => by rw [hσ', wi_row g2, wi_row g1]
      have fk : ∀ k, k ≠ 102 → k ≠ 112 → τ'.1 k = τ.1 k := fun k g1 g2 => by rw [hτ', wi_row g1, wi_row g1, wi_row g2, wi_row g1]
      have f2 : ∀ i, 3 ≤ i → τ'.1 102 i = τ.1 102 i := fun i g1 => by rw [hτ', wi_ne (by omega), wi_ne (by omega), wi_row (by decide), wi_ne (by omega)]
      have fx : ∀ i, 30 ≤ i → τ'.1 112 i = τ.1 112 i := fun i g1 => by rw [hτ', wi_row (by decide), wi_row (by decide), wi_ne (by omega), wi_row (by decide)]
      have cv' : CV m σ' V (dz d (6 * u + j) q) := by rw [hσ']; exact CV_dz (CV_rows hM.2.1 (fun k g1 g2 => wi_row (by omega)))
      have rv' : RV τ' V (dz d (6 * u + j) q) := by
        have r1 : RV (wi (wi τ 102 0 (I 0)) 112 (6 * u + j) (I q)) V (dz d (6 * u + j) q) := RV_dz (RV_congr hM.2.2.1 (by rw [wi_ne (by decide)]) (wi_row (by decide)) (wi_row (by decide)) (wi_row (by decide))) (by omega)
        exact RV_congr r1 (by rw [hτ', wi_ne (by decide), wi_ne (by decide)]) (by rw [hτ', wi_row (by decide), wi_row (by decide)]) (by rw [hτ', wi_row (by decide), wi_row (by decide)]) (by rw [hτ', wi_row (by decide), wi_row (by decide)])
      have QQ' : QQ m 63 σ' τ' V E (dz d (6 * u + j) q) p L W dl pl et b t s rd h n g := by
        refine ⟨QM_congr hM (MDok_dz hM.1 yq.1 yq.2) cv' rv' (fun i hi => by rw [fc m (by omega) (by omega)]) (fc _ (by omega) (by omega)) (fc _ (by omega) (by omega)) (f2 12 (by decide)) (f2 13 (by decide)) (fk 103 (by decide) (by decide)) (fx 35 (by decide)) (fun v hv => fx _ (by omega)), QE_congr hE (by rw [fc m (by omega) (by omega)]) (fc _ (by omega) (by omega)) (fc _ (by omega) (by omega)) (fc _ (by omega) (by omega)) (f2 15 (by decide)) (fk 105 (by decide) (by decide)),
          QR_rows hR (fun i _ => by rw [fc 63 (by decide) (by omega)]) (fun i _ _ => fx i (by omega)) (by rw [fc 63 (by decide) (by omega), fx 42 (by decide)]; exact hR.2.2.2.2.2.2), ?_, fun w hw => QP_congr (hP w hw) (fun k g1 g2 => by rw [fc k (by omega) (by omega)]) (fun i g1 g2 => fx i (by omega)) (fk 103 (by decide) (by decide)), LR_congr hL rfl rfl (fun k g1 g2 => fc k (by omega) (by omega)) (fun i hi => fx i (by omega)), hn, by rw [fc 63 (by decide) (by omega)]; exact hrd, hb, hz⟩
        obtain ⟨np, n1, n2⟩ := hN
        exact ⟨np, by rw [fc 63 (by decide) (by omega)]; exact n1, n2⟩
      have tB := hG.2.2.1.2
      refine ⟨I (d.sz (6 * u + j)), σ', τ', ?_, by rw [e, hτ'], ⟨m, V, E, pres, kp, dz d (6 * u + j) q, p, L, W, dl, pl, et, b, t, s, rd, h, n, g, GA_act hG hp (by omega) QQ' (by omega) (fun k hk => fc k (by omega) (by omega)) (fun i hi => by rw [hσ', wi_row (by omega), wi_ne hi]) (by rw [hσ', wi_2, wi_2]) (fun k g1 g2 g3 => fk k (by omega) g3) (fun i g1 _ => f2 i g1) (by rw [hσ', wi_row (by omega), wi_eq]) (by rw [hτ', wi_ne (by decide), wi_eq]) (by rw [hτ', wi_eq])⟩, ⟨fun k hk => by rw [hσ', wi_row (by omega)], by rw [hσ', wi_2]⟩, ⟨fun k hk => fk k (by omega) (by omega), by rw [hτ', wi_2, wi_2, wi_2, wi_2]⟩⟩
      have hm : (wi σ 0 12 (I 0)).2.2 0 4 = m := hG.2.1
      have i1 : inb (I ((6 * u + j : Nat) : Int)) 30 = true := inI (by omega) (by decide)
      have i2 : ix (I ((6 * u + j : Nat) : Int)) = 6 * u + j := ixI (by omega)
      show bd (f_X6_slot (I (u : Int)) (I (j : Int)) (wi σ 0 12 (I 0))) (fun r7 σ8 => gd (bM (σ8.2.2 0 4)) (gd (inb r7 30) (gd (bM (σ8.2.2 0 4)) (gd (inb r7 30) (nmW (wi σ8 ((σ8.2.2 0 4) + 9) (ix r7) (I q)) fun σ11 => some (σ8.1 ((σ8.2.2 0 4) + 9) (ix r7), σ11)))))) = _
      rw [slot_ok (by omega) (by omega), bd_s, hm, bm, i1, gd_t, gd_t, gd_t, gd_t, nm_W, i2, wi_row (show m + 9 ≠ 0 by omega), a2, hσ'])
  refine ⟨x, σ', τ', ?_, k2, k3⟩
  unfold f_X6_resize
  rw [c2, bd_s, show (0 : Int32) = I 0 from rfl, show (99 : Int32) = I 99 from rfl, c3, bd_s]
  exact k1
/-! call -/
theorem c_can {σ : Wd} {v : Nat} {bg h k t : Int} (v5 : v < 5) (h0 : σ.1 63 0 = I bg) (hb : 0 ≤ bg ∧ bg ≤ 1) (h1 : σ.1 64 v = I h) (hh : 0 ≤ h ∧ h ≤ 3) (h8 : h = 1 ∨ h = 2 → σ.1 71 v = I k) (ht : σ.1 63 1 = I t) (t0 : 0 ≤ t ∧ t ≤ 1000000) (kb : -2 ≤ k ∧ k ≤ 2000000) : f_X4_canBeCalled 63 (I (v : Int)) σ = some (I (bn (decide (bg = 1 ∧ (h = 1 ∨ h = 2) ∧ k ≤ t))), σ) := by
  have e1 : σ.1 (63 + 1) v = I h := h1
  by_cases c0 : bg = 0
  · rw [decide_eq_false (by omega), bn_f]
    unfold f_X4_canBeCalled f_X4_canBeCalled_44 f_X4_canBeCalled_45
    simp (disch := omega) only [↓reduceIte, gd_t, bd_s, nm_W, nm_I, I_add, I_sub, I_mul, I_neg, I_le_t, I_le_f, I_lt_t, I_lt_f, I_eq_t, I_eq_f, I_inb', I_ix', Int.toNat_natCast, decide_true, decide_false, Bool.not_false, Bool.not_true, if_true, if_false, wi_eq, wi_eq', wi_ne, wi_row, wi_2, N0, N1, N2, N3, N4, N5, N6, N7, N8, N9, N10, N11, N12, N13, N14, N15, N16, N17, N18, N19, N20, N21, N22, N23, N24, N25, N26, N27, N28, N29, N30, N31, N32, N33, N34, N35, N36, N37, N38, N39, N40, N41, N42, N43, N45, N48, N57, N59, N88, N89, N97, N99, N120, N121, N122, N179, N200, N255, N300, N400, N880, N900, N999, N1019, N50000000, N100000000, N1000000000, N2147483647, N2147483648, h0, isb_0]
  · by_cases c1 : h = 1 ∨ h = 2
    · have e8 : σ.1 (63 + 8) v = I k := h8 c1
      by_cases c2 : k ≤ t
      · rw [decide_eq_true ⟨by omega, c1, c2⟩, bn_t]
        unfold f_X4_canBeCalled f_X4_canBeCalled_27 f_X4_canBeCalled_45
        rcases c1 with c1 | c1
        · simp (disch := omega) only [↓reduceIte, gd_t, bd_s, nm_W, nm_I, I_add, I_sub, I_mul, I_neg, I_le_t, I_le_f, I_lt_t, I_lt_f, I_eq_t, I_eq_f, I_inb', I_ix', Int.toNat_natCast, decide_true, decide_false, Bool.not_false, Bool.not_true, if_true, if_false, wi_eq, wi_eq', wi_ne, wi_row, wi_2, N0, N1, N2, N3, N4, N5, N6, N7, N8, N9, N10, N11, N12, N13, N14, N15, N16, N17, N18, N19, N20, N21, N22, N23, N24, N25, N26, N27, N28, N29, N30, N31, N32, N33, N34, N35, N36, N37, N38, N39, N40, N41, N42, N43, N45, N48, N57, N59, N88, N89, N97, N99, N120, N121, N122, N179, N200, N255, N300, N400, N880, N900, N999, N1019, N50000000, N100000000, N1000000000, N2147483647, N2147483648, h0, e1, e8, ht, isb_1]
        · simp (disch := omega) only [↓reduceIte, gd_t, bd_s, nm_W, nm_I, I_add, I_sub, I_mul, I_neg, I_le_t, I_le_f, I_lt_t, I_lt_f, I_eq_t, I_eq_f, I_inb', I_ix', Int.toNat_natCast, decide_true, decide_false, Bool.not_false, Bool.not_true, if_true, if_false, wi_eq, wi_eq', wi_ne, wi_row, wi_2, N0, N1, N2, N3, N4, N5, N6, N7, N8, N9, N10, N11, N12, N13, N14, N15, N16, N17, N18, N19, N20, N21, N22, N23, N24, N25, N26, N27, N28, N29, N30, N31, N32, N33, N34, N35, N36, N37, N38, N39, N40, N41, N42, N43, N45, N48, N57, N59, N88, N89, N97, N99, N120, N121, N122, N179, N200, N255, N300, N400, N880, N900, N999, N1019, N50000000, N100000000, N1000000000, N2147483647, N2147483648, h0, e1, e8, ht, isb_1]
      · rw [decide_eq_false (by omega), bn_f]
        unfold f_X4_canBeCalled f_X4_canBeCalled_27 f_X4_canBeCalled_44 f_X4_canBeCalled_45
        rcases c1 with c1 | c1
        · simp (disch := omega) only [↓reduceIte, gd_t, bd_s, nm_W, nm_I, I_add, I_sub, I_mul, I_neg, I_le_t, I_le_f, I_lt_t, I_lt_f, I_eq_t, I_eq_f, I_inb', I_ix', Int.toNat_natCast, decide_true, decide_false, Bool.not_false, Bool.not_true, if_true, if_false, wi_eq, wi_eq', wi_ne, wi_row, wi_2, N0, N1, N2, N3, N4, N5, N6, N7, N8, N9, N10, N11, N12, N13, N14, N15, N16, N17, N18, N19, N20, N21, N22, N23, N24, N25, N26, N27, N28, N29, N30, N31, N32, N33, N34, N35, N36, N37, N38, N39, N40, N41, N42, N43, N45, N48, N57, N59, N88, N89, N97, N99, N120, N121, N122, N179, N200, N255, N300, N400, N880, N900, N999, N1019, N50000000, N100000000, N1000000000, N2147483647, N2147483648, h0, e1, e8, ht, isb_0]
        · simp (disch := omega) only [↓reduceIte, gd_t, bd_s, nm_W, nm_I, I_add, I_sub, I_mul, I_neg, I_le_t, I_le_f, I_lt_t, I_lt_f, I_eq_t, I_eq_f, I_inb', I_ix', Int.toNat_natCast, decide_true, decide_false, Bool.not_false, Bool.not_true, if_true, if_false, wi_eq, wi_eq', wi_ne, wi_row, wi_2, N0, N1, N2, N3, N4, N5, N6, N7, N8, N9, N10, N11, N12, N13, N14, N15, N16, N17, N18, N19, N20, N21, N22, N23, N24, N25, N26, N27, N28, N29, N30, N31, N32, N33, N34, N35, N36, N37, N38, N39, N40, N41, N42, N43, N45, N48, N57, N59, N88, N89, N97, N99, N120, N121, N122, N179, N200, N255, N300, N400, N880, N900, N999, N1019, N50000000, N100000000, N1000000000, N2147483647, N2147483648, h0, e1, e8, ht, isb_0]
    · rw [decide_eq_false (by omega), bn_f]
      unfold f_X4_canBeCalled f_X4_canBeCalled_44 f_X4_canBeCalled_45
      simp (disch := omega) only [↓reduceIte, gd_t, bd_s, nm_W, nm_I, I_add, I_sub, I_mul, I_neg, I_le_t, I_le_f, I_lt_t, I_lt_f, I_eq_t, I_eq_f, I_inb', I_ix', Int.toNat_natCast, decide_true, decide_false, Bool.not_false, Bool.not_true, if_true, if_false, wi_eq, wi_eq', wi_ne, wi_row, wi_2, N0, N1, N2, N3, N4, N5, N6, N7, N8, N9, N10, N11, N12, N13, N14, N15, N16, N17, N18, N19, N20, N21, N22, N23, N24, N25, N26, N27, N28, N29, N30, N31, N32, N33, N34, N35, N36, N37, N38, N39, N40, N41, N42, N43, N45, N48, N57, N59, N88, N89, N97, N99, N120, N121, N122, N179, N200, N255, N300, N400, N880, N900, N999, N1019, N50000000, N100000000, N1000000000, N2147483647, N2147483648, h0, e1, isb_0]
theorem call_1 {τ : Wd} {v a c : Int} (e : f_X7_isVenue (I v) (wi τ 102 0 (I 0)) = some (I a, wi τ 102 0 (I 0))) (e2 : f_X7_refusesRun (I a) (wi τ 102 0 (I 0)) = some (I c, wi τ 102 0 (I 0))) (hc : 1 ≤ c ∧ c ≤ 5) : f_X7_call (I v) τ = some (I (-1), refW τ (I c)) := by
  unfold f_X7_call refW
  simp (disch := omega) only [↓reduceIte, gd_t, bd_s, nm_W, nm_I, I_add, I_sub, I_mul, I_neg, I_le_t, I_le_f, I_lt_t, I_lt_f, I_eq_t, I_eq_f, I_inb', I_ix', Int.toNat_natCast, decide_true, decide_false, Bool.not_false, Bool.not_true, if_true, if_false, wi_eq, wi_eq', wi_ne, wi_row, wi_2, N0, N1, N2, N3, N4, N5, N6, N7, N8, N9, N10, N11, N12, N13, N14, N15, N16, N17, N18, N19, N20, N21, N22, N23, N24, N25, N26, N27, N28, N29, N30, N31, N32, N33, N34, N35, N36, N37, N38, N39, N40, N41, N42, N43, N45, N48, N57, N59, N88, N89, N97, N99, N120, N121, N122, N179, N200, N255, N300, N400, N880, N900, N999, N1019, N50000000, N100000000, N1000000000, N2147483647, N2147483648, e, e2, refR]
theorem call_5 {τ : Wd} {v : Nat} {h k : Int} (v5 : v < 5) (e : f_X7_isVenue (I (v : Int)) (wi τ 102 0 (I 0)) = some (I 1, wi τ 102 0 (I 0))) (e2 : f_X7_refusesRun (I 1) (wi τ 102 0 (I 0)) = some (I 0, wi τ 102 0 (I 0))) (h1 : τ.1 112 (48 + 8 * v) = I h) (hh : 0 ≤ h ∧ h ≤ 3) (h6 : τ.1 112 (54 + 8 * v) = I k) (kb : -2 ≤ k ∧ k ≤ 2000000) (hn : ¬ ((h = 1 ∨ h = 2) ∧ k = -2)) : f_X7_call (I (v : Int)) τ = some (I (-1), refW τ (I 5)) := by
  have t0 : ((48 : Int) + 8 * (v : Int) + 0).toNat = 48 + 8 * v := by omega
  have t6 : ((48 : Int) + 8 * (v : Int) + 6).toNat = 54 + 8 * v := by omega
  unfold f_X7_call f_X7_call_54 f_X7_call_68 refW f_X7_partAt
  by_cases c1 : h = 1
  · simp (disch := omega) only [↓reduceIte, gd_t, bd_s, nm_W, nm_I, I_add, I_sub, I_mul, I_neg, I_le_t, I_le_f, I_lt_t, I_lt_f, I_eq_t, I_eq_f, I_inb', I_ix', Int.toNat_natCast, decide_true, decide_false, Bool.not_false, Bool.not_true, if_true, if_false, wi_eq, wi_eq', wi_ne, wi_row, wi_2, N0, N1, N2, N3, N4, N5, N6, N7, N8, N9, N10, N11, N12, N13, N14, N15, N16, N17, N18, N19, N20, N21, N22, N23, N24, N25, N26, N27, N28, N29, N30, N31, N32, N33, N34, N35, N36, N37, N38, N39, N40, N41, N42, N43, N45, N48, N57, N59, N88, N89, N97, N99, N120, N121, N122, N179, N200, N255, N300, N400, N880, N900, N999, N1019, N50000000, N100000000, N1000000000, N2147483647, N2147483648, e, e2, t0, t6, h1, h6, refR]
  · by_cases c2 : h = 2
    · simp (disch := omega) only [↓reduceIte, gd_t, bd_s, nm_W, nm_I, I_add, I_sub, I_mul, I_neg, I_le_t, I_le_f, I_lt_t, I_lt_f, I_eq_t, I_eq_f, I_inb', I_ix', Int.toNat_natCast, decide_true, decide_false, Bool.not_false, Bool.not_true, if_true, if_false, wi_eq, wi_eq', wi_ne, wi_row, wi_2, N0, N1, N2, N3, N4, N5, N6, N7, N8, N9, N10, N11, N12, N13, N14, N15, N16, N17, N18, N19, N20, N21, N22, N23, N24, N25, N26, N27, N28, N29, N30, N31, N32, N33, N34, N35, N36, N37, N38, N39, N40, N41, N42, N43, N45, N48, N57, N59, N88, N89, N97, N99, N120, N121, N122, N179, N200, N255, N300, N400, N880, N900, N999, N1019, N50000000, N100000000, N1000000000, N2147483647, N2147483648, e, e2, t0, t6, h1, h6, refR]
    · simp (disch := omega) only [↓reduceIte, gd_t, bd_s, nm_W, nm_I, I_add, I_sub, I_mul, I_neg, I_le_t, I_le_f, I_lt_t, I_lt_f, I_eq_t, I_eq_f, I_inb', I_ix', Int.toNat_natCast, decide_true, decide_false, Bool.not_false, Bool.not_true, if_true, if_false, wi_eq, wi_eq', wi_ne, wi_row, wi_2, N0, N1, N2, N3, N4, N5, N6, N7, N8, N9, N10, N11, N12, N13, N14, N15, N16, N17, N18, N19, N20, N21, N22, N23, N24, N25, N26, N27, N28, N29, N30, N31, N32, N33, N34, N35, N36, N37, N38, N39, N40, N41, N42, N43, N45, N48, N57, N59, N88, N89, N97, N99, N120, N121, N122, N179, N200, N255, N300, N400, N880, N900, N999, N1019, N50000000, N100000000, N1000000000, N2147483647, N2147483648, e, e2, t0, h1, refR]
theorem call_0 {τ : Wd} {v : Nat} {h k t D : Int} (v5 : v < 5) (e : f_X7_isVenue (I (v : Int)) (wi τ 102 0 (I 0)) = some (I 1, wi τ 102 0 (I 0))) (e2 : f_X7_refusesRun (I 1) (wi τ 102 0 (I 0)) = some (I 0, wi τ 102 0 (I 0))) (h1 : τ.1 112 (48 + 8 * v) = I h) (hh : h = 1 ∨ h = 2) (h6 : τ.1 112 (54 + 8 * v) = I k) (kb : k = -2) (ht : τ.1 112 37 = I t) (hD : τ.1 103 (5 * v + 3) = I D) : f_X7_call (I (v : Int)) τ = some (I (t + D), wi (wi (wi (wi τ 102 0 (I 0)) 112 (54 + 8 * v) (I (t + D))) 102 1 (I 0)) 102 2 (I (-1))) := by
  have t0 : ((48 : Int) + 8 * (v : Int) + 0).toNat = 48 + 8 * v := by omega
  have t6 : ((48 : Int) + 8 * (v : Int) + 6).toNat = 54 + 8 * v := by omega
  have w37 : Int.toNat 37 = 37 := rfl
  have t3 : ((5 : Int) * (v : Int) + 3).toNat = 5 * v + 3 := by omega
  unfold f_X7_call f_X7_call_54 f_X7_partAt
  rcases hh with c1 | c1
  · simp (disch := omega) only [↓reduceIte, gd_t, bd_s, nm_W, nm_I, I_add, I_sub, I_mul, I_neg, I_le_t, I_le_f, I_lt_t, I_lt_f, I_eq_t, I_eq_f, I_inb', I_ix', Int.toNat_natCast, decide_true, decide_false, Bool.not_false, Bool.not_true, if_true, if_false, wi_eq, wi_eq', wi_ne, wi_row, wi_2, N0, N1, N2, N3, N4, N5, N6, N7, N8, N9, N10, N11, N12, N13, N14, N15, N16, N17, N18, N19, N20, N21, N22, N23, N24, N25, N26, N27, N28, N29, N30, N31, N32, N33, N34, N35, N36, N37, N38, N39, N40, N41, N42, N43, N45, N48, N57, N59, N88, N89, N97, N99, N120, N121, N122, N179, N200, N255, N300, N400, N880, N900, N999, N1019, N50000000, N100000000, N1000000000, N2147483647, N2147483648, e, e2, t0, t6, h1, h6, w37, ht, f_X7_told, t3, hD, goodR]
  · simp (disch := omega) only [↓reduceIte, gd_t, bd_s, nm_W, nm_I, I_add, I_sub, I_mul, I_neg, I_le_t, I_le_f, I_lt_t, I_lt_f, I_eq_t, I_eq_f, I_inb', I_ix', Int.toNat_natCast, decide_true, decide_false, Bool.not_false, Bool.not_true, if_true, if_false, wi_eq, wi_eq', wi_ne, wi_row, wi_2, N0, N1, N2, N3, N4, N5, N6, N7, N8, N9, N10, N11, N12, N13, N14, N15, N16, N17, N18, N19, N20, N21, N22, N23, N24, N25, N26, N27, N28, N29, N30, N31, N32, N33, N34, N35, N36, N37, N38, N39, N40, N41, N42, N43, N45, N48, N57, N59, N88, N89, N97, N99, N120, N121, N122, N179, N200, N255, N300, N400, N880, N900, N999, N1019, N50000000, N100000000, N1000000000, N2147483647, N2147483648, e, e2, t0, t6, h1, h6, w37, ht, f_X7_told, t3, hD, goodR]
end
section
/-! PURE: call, whole -/
theorem c_call {σ : Wd} {v a ss : Int} (e1 : f_X6_isVenue (I v) σ = some (I a, σ)) (ha : 0 ≤ a ∧ a ≤ 1) (hs : 0 ≤ ss ∧ ss ≤ 1) (h0 : a = 0 → ss = 0) (h1 : a = 1 → f_X4_canBeCalled 63 (I v) σ = some (I ss, σ)) : f_X6_call (I v) σ = f_X6_call_31 (I v) (I a) (I 1) (I ss) σ := by
  unfold f_X6_call f_X6_call_30
  by_cases c1 : a = 0
  · have s0 := h0 c1
    simp (disch := omega) only [↓reduceIte, gd_t, bd_s, nm_W, nm_I, I_add, I_sub, I_mul, I_neg, I_le_t, I_le_f, I_lt_t, I_lt_f, I_eq_t, I_eq_f, I_inb', I_ix', Int.toNat_natCast, decide_true, decide_false, Bool.not_false, Bool.not_true, if_true, if_false, wi_eq, wi_eq', wi_ne, wi_row, wi_2, N0, N1, N2, N3, N4, N5, N6, N7, N8, N9, N10, N11, N12, N13, N14, N15, N16, N17, N18, N19, N20, N21, N22, N23, N24, N25, N26, N27, N28, N29, N30, N31, N32, N33, N34, N35, N36, N37, N38, N39, N40, N41, N42, N43, N45, N48, N57, N59, N88, N89, N97, N99, N120, N121, N122, N179, N200, N255, N300, N400, N880, N900, N999, N1019, N50000000, N100000000, N1000000000, N2147483647, N2147483648, e1]
    rw [s0]
  · have e2 := h1 (by omega)
    by_cases c2 : ss = 0
    · simp (disch := omega) only [↓reduceIte, gd_t, bd_s, nm_W, nm_I, I_add, I_sub, I_mul, I_neg, I_le_t, I_le_f, I_lt_t, I_lt_f, I_eq_t, I_eq_f, I_inb', I_ix', Int.toNat_natCast, decide_true, decide_false, Bool.not_false, Bool.not_true, if_true, if_false, wi_eq, wi_eq', wi_ne, wi_row, wi_2, N0, N1, N2, N3, N4, N5, N6, N7, N8, N9, N10, N11, N12, N13, N14, N15, N16, N17, N18, N19, N20, N21, N22, N23, N24, N25, N26, N27, N28, N29, N30, N31, N32, N33, N34, N35, N36, N37, N38, N39, N40, N41, N42, N43, N45, N48, N57, N59, N88, N89, N97, N99, N120, N121, N122, N179, N200, N255, N300, N400, N880, N900, N999, N1019, N50000000, N100000000, N1000000000, N2147483647, N2147483648, e1, e2]
      rw [c2]
    · simp (disch := omega) only [↓reduceIte, gd_t, bd_s, nm_W, nm_I, I_add, I_sub, I_mul, I_neg, I_le_t, I_le_f, I_lt_t, I_lt_f, I_eq_t, I_eq_f, I_inb', I_ix', Int.toNat_natCast, decide_true, decide_false, Bool.not_false, Bool.not_true, if_true, if_false, wi_eq, wi_eq', wi_ne, wi_row, wi_2, N0, N1, N2, N3, N4, N5, N6, N7, N8, N9, N10, N11, N12, N13, N14, N15, N16, N17, N18, N19, N20, N21, N22, N23, N24, N25, N26, N27, N28, N29, N30, N31, N32, N33, N34, N35, N36, N37, N38, N39, N40, N41, N42, N43, N45, N48, N57, N59, N88, N89, N97, N99, N120, N121, N122, N179, N200, N255, N300, N400, N880, N900, N999, N1019, N50000000, N100000000, N1000000000, N2147483647, N2147483648, e1, e2]
      rw [show ss = 1 by omega]
set_option maxHeartbeats 1000000 in
theorem m_call (x : Int32) : MT (f_X6_call x) (f_X7_call x) := by
  intro σ τ B ⟨m, V, E, pres, kp, d, p, L, W, dl, pl, et, b, t, s, rd, h, n, g, hG⟩ hB
  obtain ⟨v, rfl, hv⟩ := argI x
  obtain ⟨bm, m10, m63⟩ := bMm hG.1
  have m24 : m = 11 ∨ m = 24 := by have := hG.1; omega
  have hQ := hG.2.2.1.1
  have tB := hG.2.2.1.2
  have h5 := hQ.1.1.1
  have g21 : (wi τ 102 0 (I 0)).1 102 21 = I (bn pres) := by rw [wi_ne (by decide)]; exact hG.2.2.2.1.2.1
  have g14 : (wi τ 102 0 (I 0)).1 102 14 = I (V : Int) := by rw [wi_ne (by decide)]; exact hQ.1.2.2.1.1
  have g36 : (wi τ 102 0 (I 0)).1 112 36 = I (bn b) := by rw [wi_row (by decide)]; exact hQ.2.2.1.1.2
  have c0 := cIsV (σ := σ) hv hG.2.1 bm hQ.1.2.1.1 h5
  have t0 := hQ.2.2.1.2.1.2.2.1
  -- what is known of the part
  have part : ∀ u : Nat, u < V → ∃ k : Int, (σ.1 64 u = I (h u) ∧ τ.1 112 (48 + 8 * u) = I (h u) ∧ 0 ≤ h u ∧ h u ≤ 3) ∧ τ.1 112 (54 + 8 * u) = I k ∧ -2 ≤ k ∧ k ≤ t + 9 ∧ (h u = 1 ∨ h u = 2 → σ.1 71 u = I k ∧ (k = -2 ∨ t < k)) := fun u hu => by
    obtain ⟨⟨a1, a2⟩, -, -, -, -, ⟨w, k, -, -, -, -, -, z6, z7, z8, z9, -⟩, -, -, hc⟩ := hQ.2.2.2.2.1 u hu
    exact ⟨k, ⟨a1, a2, by omega, by omega⟩, z6, z7, z8, z9⟩
  obtain ⟨ss, hs, hs0, hs1⟩ : ∃ ss : Int, (0 ≤ ss ∧ ss ≤ 1) ∧ (¬ (0 ≤ v ∧ v < (V : Int)) → ss = 0) ∧ (∀ u : Nat, v = (u : Int) → u < V → f_X4_canBeCalled 63 (I v) σ = some (I ss, σ) ∧ (ss = 1 ↔ b = true ∧ (h u = 1 ∨ h u = 2) ∧ σ.1 71 u = I (-2) ∧ τ.1 112 (54 + 8 * u) = I (-2))) := by
    by_cases y : 0 ≤ v ∧ v < (V : Int)
    · obtain ⟨u, rfl⟩ := Int.eq_ofNat_of_zero_le y.1
      obtain ⟨k, ⟨a1, a2, a3, a4⟩, a5, a6, a7, a8⟩ := part u (by omega)
      have e := c_can (σ := σ) (v := u) (bg := bn b) (h := h u) (k := k) (t := t) (by omega) hQ.2.2.1.1.1 (bn_bnd _) a1 ⟨a3, a4⟩ (fun q => (a8 q).1) hQ.2.2.1.2.1.1 ⟨t0, by omega⟩ ⟨a6, by omega⟩
      refine ⟨bn (decide (bn b = 1 ∧ (h u = 1 ∨ h u = 2) ∧ k ≤ t)), bn_bnd _, fun q => absurd y q, fun u' hu' _ => ?_⟩
      have eu : u' = u := by omega
      subst eu
      refine ⟨e, fun q => ?_, fun q => ?_⟩
      · obtain ⟨q1, q2, q3⟩ := bn_1 q
        obtain ⟨z1, z2⟩ := a8 q2
        have k2 : k = -2 := by omega
        rw [k2] at z1 a5
        refine ⟨?_, q2, z1, a5⟩
        cases b with
        | true => rfl
        | false => cases q1
      · obtain ⟨q1, q2, q3, q4⟩ := q
        rw [a5, I_eq (by unfold R; omega) (by unfold R; omega)] at q4
        rw [decide_eq_true ⟨by rw [q1]; rfl, q2, by omega⟩]
        rfl
    · exact ⟨0, by omega, fun _ => rfl, fun u hu1 hu2 => absurd ⟨by omega, by omega⟩ y⟩
  have c1 := c_call c0 (bn_bnd _) hs (fun q => hs0 (bn_0 q)) (fun q => by
    have y := bn_1 q
    obtain ⟨u, rfl⟩ := Int.eq_ofNat_of_zero_le y.1
    exact (hs1 u rfl (by omega)).1)
  obtain ⟨x, σ', τ', k1, k2, k3⟩ := act_ok (B' := B + 200) (a := bn (decide (0 ≤ v ∧ v < (V : Int)))) (nn := 1) (ss := ss) (low := I (-1)) (K := fun σ2 => gd (bM (σ2.2.2 0 4)) (gd (inb (I v) 5) (gd (inb (I v) 5) (nmW (wi σ2 71 (ix (I v)) ((σ2.1 63 1) + (σ2.1 ((σ2.2.2 0 4) + 5) (ix (I v))))) fun σ4 => gd (inb (I v) 5) (some (σ4.1 71 (ix (I v)), σ4)))))) (fr := f_X7_call (I v))
    hG (by omega) (bn_bnd _) (by omega) hs
    (fun hc => by
      rcases tc_cases (pres := pres) (a := bn (decide (0 ≤ v ∧ v < (V : Int)))) (n := 1) (s := ss) with ⟨q1, q2⟩ | ⟨q1, q2, q3⟩ | ⟨-, -, q2, -⟩ | ⟨q1, q2, -, q4, q5⟩ | ⟨-, -, -, -, q2⟩
      · rw [q2]
        have e := rRun (τ := wi τ 102 0 (I 0)) (a := 0) g21 g36 (by omega)
        rw [show tc pres 0 1 (bn b) = 1 by unfold tc; rw [if_pos (Or.inr rfl)]] at e
        exact call_1 (rIsV0 hv g21 (bn_bnd _) g14 h5 (Or.inl (by rw [q1]; rfl))) e (by omega)
      · rw [q3]
        have e := rRun (τ := wi τ 102 0 (I 0)) (a := 0) g21 g36 (by omega)
        rw [show tc pres 0 1 (bn b) = 1 by unfold tc; rw [if_pos (Or.inr rfl)]] at e
        exact call_1 (rIsV0 hv g21 (bn_bnd _) g14 h5 (Or.inr (bn_0 q2))) e (by omega)
      · omega
      · rw [q5]
        have y := bn_n0 q2
        have ev := rIsV1 (τ := wi τ 102 0 (I 0)) (x := bn pres) hv g21 (by rw [q1]; rfl) g14 h5 y.1 y.2
        have e := rRun (τ := wi τ 102 0 (I 0)) (a := 1) g21 g36 (by omega)
        cases hb : b with
        | false =>
          rw [hb, q1, show tc true 1 1 (bn false) = 5 by decide] at e
          exact call_1 ev e (by omega)
        | true =>
          rw [hb, q1, show tc true 1 1 (bn true) = 0 by decide] at e
          obtain ⟨u, rfl⟩ := Int.eq_ofNat_of_zero_le y.1
          obtain ⟨k, ⟨a1, a2, a3, a4⟩, a5, a6, a7, a8⟩ := part u (by omega)
          refine call_5 (by omega) ev e a2 ⟨a3, a4⟩ a5 ⟨a6, by omega⟩ (fun q => ?_)
          have k2 := q.2
          subst k2
          have := (hs1 u rfl (by omega)).2.mpr ⟨hb, q.1, (a8 q.1).1, a5⟩
          omega
      · exact absurd q2 hc)
    (fun hp ha _ hss => by
      have y := bn_1 ha
      have ev := rIsV1 (τ := wi τ 102 0 (I 0)) (x := bn pres) hv g21 (by rw [hp]; rfl) g14 h5 y.1 y.2
      have e := rRun (τ := wi τ 102 0 (I 0)) (a := 1) g21 g36 (by omega)
      obtain ⟨u, rfl⟩ := Int.eq_ofNat_of_zero_le y.1
      have hu : u < V := by omega
      obtain ⟨b1, hh, k71, k54⟩ := (hs1 u rfl hu).2.mp hss
      rw [b1, hp, show tc true 1 1 (bn true) = 0 by decide] at e
      obtain ⟨hM, hE, hR, hN, hP, hL, hn, hrd, hb, hz⟩ := hQ
      obtain ⟨D1, D2, D3, D4⟩ := hM.2.2.2.2.2.2.1 u hu
      have e0 := call_0 (by omega) ev e (hP u hu).1.2 hh k54 rfl hR.2.1.2.1 D2
      obtain ⟨τ', hτ'⟩ : ∃ x, x = wi (wi (wi (wi τ 102 0 (I 0)) 112 (54 + 8 * u) (I (t + dl u))) 102 1 (I 0)) 102 2 (I (-1)) := ⟨_, rfl⟩
      obtain ⟨σ', hσ'⟩ : ∃ x, x = wi (wi σ 0 12 (I 0)) 71 u (I (t + dl u)) := ⟨_, rfl⟩
      have fc : ∀ k, k ≠ 0 → k ≠ 71 → σ'.1 k = σ.1 k := fun k g1 g2 => by rw [hσ', wi_row g2, wi_row g1]
      have f71 : ∀ i, i ≠ u → σ'.1 71 i = σ.1 71 i := fun i g1 => by rw [hσ', wi_ne g1, wi_row (by decide)]
      have fk : ∀ k, k ≠ 102 → k ≠ 112 → τ'.1 k = τ.1 k := fun k g1 g2 => by rw [hτ', wi_row g1, wi_row g1, wi_row g2, wi_row g1]
      have f2 : ∀ i, 3 ≤ i → τ'.1 102 i = τ.1 102 i := fun i g1 => by rw [hτ', wi_ne (by omega), wi_ne (by omega), wi_row (by decide), wi_ne (by omega)]
      have fx : ∀ i, i ≠ 54 + 8 * u → τ'.1 112 i = τ.1 112 i := fun i g1 => by rw [hτ', wi_row (by decide), wi_row (by decide), wi_ne g1, wi_row (by decide)]
      have s71 : σ'.1 71 u = I (t + dl u) := by rw [hσ', wi_eq]
      have x54 : τ'.1 112 (54 + 8 * u) = I (t + dl u) := by rw [hτ', wi_row (by decide), wi_row (by decide), wi_eq]
      have hPu : QP 63 σ' τ' t t u (h u) (n u) (g u) := by
        obtain ⟨y1, y2, y3, y4, y5, ⟨w, k, z1, z2, z3, z4, z5, z6, z7, z8, z9, z10, z11⟩, y6, y7, y8⟩ := hP u hu
        refine ⟨by rw [fc 64 (by decide) (by decide), fx _ (by omega)]; exact y1, by rw [fc 65 (by decide) (by decide), fx _ (by omega)]; exact y2, by rw [fc 66 (by decide) (by decide), fx _ (by omega)]; exact y3, by rw [fc 68 (by decide) (by decide), fx _ (by omega)]; exact y4, by rw [fc 69 (by decide) (by decide), fx _ (by omega)]; exact y5, ⟨w, t + dl u, by rw [fc 70 (by decide) (by decide)]; exact z1, by rw [fx _ (by omega)]; exact z2, z3, z4, z5, x54, by omega, by omega, fun _ => ⟨s71, Or.inr (by omega)⟩, fun q => ?_, fun q => by omega⟩, by rw [fc 67 (by decide) (by decide), fx _ (by omega)]; exact y6, y7, y8⟩
        have := (z10 q).2
        rw [D2, I_toInt (by unfold R; omega)] at this
        refine ⟨fun _ => this, ?_⟩
        rw [fk 103 (by decide) (by decide), D2, I_toInt (by unfold R; omega)]
        exact this
      have QQ' : QQ m 63 σ' τ' V E d p L W dl pl et b t s rd h n g := by
        refine ⟨QM_rows hM (fun k g1 g2 => fc k (by omega) (by omega)) (fun i g1 g2 => f2 i (by omega)) (fk 103 (by decide) (by decide)) (fk 104 (by decide) (by decide)) (fun i hi => fx i (by omega)), QE_congr hE (by rw [fc m (by omega) (by omega)]) (fc _ (by omega) (by omega)) (fc _ (by omega) (by omega)) (fc _ (by omega) (by omega)) (f2 15 (by decide)) (fk 105 (by decide) (by decide)),
          QR_rows hR (fun i _ => by rw [fc 63 (by decide) (by decide)]) (fun i _ _ => fx i (by omega)) (by rw [fc 63 (by decide) (by decide), fx 42 (by omega)]; exact hR.2.2.2.2.2.2), ?_, fun w hw => ?_, LR_congr hL rfl rfl (fun k g1 g2 => fc k (by omega) (by omega)) (fun i hi => fx i (by omega)), hn, by rw [fc 63 (by decide) (by decide)]; exact hrd, hb, hz⟩
        · obtain ⟨np, n1, n2⟩ := hN
          exact ⟨np, by rw [fc 63 (by decide) (by decide)]; exact n1, n2⟩
        · by_cases q : w = u
          · rw [q]; exact hPu
          · refine QP_congr (hP w hw) (fun k g1 g2 => ?_) (fun i g1 g2 => fx i (by omega)) (fk 103 (by decide) (by decide))
            by_cases k71 : k = 71
            · rw [k71]; exact f71 w q
            · rw [fc k (by omega) k71]
      refine ⟨I (t + dl u), σ', τ', ?_, by rw [e0, hτ'], ⟨m, V, E, pres, kp, d, p, L, W, dl, pl, et, b, t, s, rd, h, n, g, GA_act hG hp (by omega) QQ' (by omega) (fun k hk => fc k (by omega) (by omega)) (fun i hi => by rw [hσ', wi_row (by omega), wi_ne hi]) (by rw [hσ', wi_2, wi_2]) (fun k g1 g2 g3 => fk k (by omega) g3) (fun i g1 _ => f2 i g1) (by rw [hσ', wi_row (by omega), wi_eq]) (by rw [hτ', wi_ne (by decide), wi_eq]) (by rw [hτ', wi_eq])⟩, ⟨fun k hk => by rw [hσ', wi_row (by omega)], by rw [hσ', wi_2]⟩, ⟨fun k hk => fk k (by omega) (by omega), by rw [hτ', wi_2, wi_2, wi_2, wi_2]⟩⟩
      have hm : (wi σ 0 12 (I 0)).2.2 0 4 = m := hG.2.1
      have i1 : inb (I (u : Int)) 5 = true := inI (by omega) (by decide)
      have i2 : ix (I (u : Int)) = u := ixI (by omega)
      show gd (bM ((wi σ 0 12 (I 0)).2.2 0 4)) (gd (inb (I (u : Int)) 5) (gd (inb (I (u : Int)) 5) (nmW (wi (wi σ 0 12 (I 0)) 71 (ix (I (u : Int))) (((wi σ 0 12 (I 0)).1 63 1) + ((wi σ 0 12 (I 0)).1 (((wi σ 0 12 (I 0)).2.2 0 4) + 5) (ix (I (u : Int)))))) fun σ4 => gd (inb (I (u : Int)) 5) (some (σ4.1 71 (ix (I (u : Int))), σ4))))) = _
      rw [hm, bm, i1, gd_t, gd_t, gd_t, nm_W, gd_t, i2, wi_row (show m + 5 ≠ 0 by omega), wi_row (show 63 ≠ 0 by decide), D1, hR.2.1.1, I_add, ← hσ', s71])
  refine ⟨x, σ', τ', ?_, k2, k3⟩
  rw [c1]
  exact k1
end
section
/-! PURE: plan, adopt -/
theorem QM_pl {m V : Nat} {σ τ σ' τ' : Wd} {d : MD} {p L W : Int} {dl pl pl' : Nat → Int} (h : QM m σ τ V d p L W dl pl) (c : ∀ k, m ≤ k → k ≤ m + 9 → k ≠ m + 7 → σ'.1 k = σ.1 k) (c7 : ∀ v, v < V → σ'.1 (m + 7) v = I (pl' v)) (e2 : ∀ i, 12 ≤ i → i ≤ 14 → τ'.1 102 i = τ.1 102 i) (e3 : τ'.1 103 = τ.1 103) (e4 : τ'.1 104 = τ.1 104) (e5 : ∀ i, i < 36 → τ'.1 112 i = τ.1 112 i) (x : ∀ v, v < V → τ'.1 112 (43 + v) = I (pl' v)) (hb : ∀ v, v < V → 0 ≤ pl' v ∧ pl' v ≤ 120) : QM m σ' τ' V d p L W dl pl' := by
  obtain ⟨a1, a2, a3, a4, a5, a6, a7, a8⟩ := h
  have cm := c m (by omega) (by omega) (by omega)
  refine ⟨a1, ?_, RV_cells a3 a1.1 (lv6 a1) (e2 14 (by decide) (by decide)) e3 e4 (fun i hi => e5 i (by omega)), ?_, ?_, ?_, fun v hv => ?_, fun v hv => ⟨c7 v hv, x v hv, (hb v hv).1, (hb v hv).2⟩⟩
  · unfold CV at a2 ⊢
    rw [cm, c (m + 1) (by omega) (by omega) (by omega), c (m + 2) (by omega) (by omega) (by omega), c (m + 3) (by omega) (by omega) (by omega), c (m + 4) (by omega) (by omega) (by omega), c (m + 6) (by omega) (by omega) (by omega), c (m + 8) (by omega) (by omega) (by omega), c (m + 9) (by omega) (by omega) (by omega)]
    exact a2
  · rw [cm, e2 12 (by decide) (by decide)]; exact a4
  · rw [cm, e2 13 (by decide) (by decide)]; exact a5
  · rw [cm, e5 35 (by decide)]; exact a6
  · rw [c (m + 5) (by omega) (by omega) (by omega), e3]; exact a7 v hv
def pk (d : MD) (p W : Int) (pl : Nat → Int) (V u : Nat) (q : Int) : Bool := hv_ d p u q && decide (pu pl V 0 - pl u + q ≤ W)
theorem pk_120 {d : MD} {p W q : Int} {pl : Nat → Int} {V u : Nat} (hp : PB pl V) (hu : u < V) (hW : W ≤ 120) : ((decide (q ≤ 120) && hv_ d p u q) && decide (pu pl V 0 - pl u + q ≤ W)) = pk d p W pl V u q := by
  unfold pk
  have pg := (pu_ge (f := pl) (w := u) V 0 (fun w _ h2 => (hp w (by omega)).1) (by omega) (by omega)).1
  by_cases c : q ≤ 120
  · rw [decide_eq_true c, Bool.true_and]
  · rw [decide_eq_false c, Bool.false_and, Bool.false_and, decide_eq_false (show ¬ pu pl V 0 - pl u + q ≤ W by omega), Bool.and_false]
theorem c_cbp {m V u : Nat} {σ τ : Wd} {d : MD} {p L W q : Int} {dl pl : Nat → Int} (hM : QM m σ τ V d p L W dl pl) (hu : u < V) (hq : R q) : f_X3_canBePlanned m (I (u : Int)) (I q) σ = some (I (bn (pk d p W pl V u q)), σ) := by
  have h5 := hM.1.1
  have hW := hM.2.2.2.2.2.1
  have e1 := cHad (z := q) hM.2.1 hM.1 hu (QM_p hM) hM.2.2.2.1.1 hq
  have e2 := cPU (pl := pl) hM.2.1.1 h5 (fun v hv => (hM.2.2.2.2.2.2.2 v hv).1)
  have hpl := hM.2.2.2.2.2.2.2 u hu
  have pb := pu_bnd (QM_pb hM) V 0 (by omega)
  rw [← pk_120 (QM_pb hM) hu hW.2.2.2]
  have w0 := hW.1
  cases c : (decide (q ≤ 120) && hv_ d p u q) with
  | false =>
    rw [c, bn_f] at e1
    rw [Bool.false_and, bn_f]
    unfold f_X3_canBePlanned f_X3_canBePlanned_33 f_X3_canBePlanned_34
    simp (disch := omega) only [↓reduceIte, gd_t, bd_s, nm_W, nm_I, I_add, I_sub, I_mul, I_neg, I_le_t, I_le_f, I_lt_t, I_lt_f, I_eq_t, I_eq_f, I_inb', I_ix', Int.toNat_natCast, decide_true, decide_false, Bool.not_false, Bool.not_true, if_true, if_false, wi_eq, wi_eq', wi_ne, wi_row, wi_2, N0, N1, N2, N3, N4, N5, N6, N7, N8, N9, N10, N11, N12, N13, N14, N15, N16, N17, N18, N19, N20, N21, N22, N23, N24, N25, N26, N27, N28, N29, N30, N31, N32, N33, N34, N35, N36, N37, N38, N39, N40, N41, N42, N43, N45, N48, N57, N59, N88, N89, N97, N99, N120, N121, N122, N179, N200, N255, N300, N400, N880, N900, N999, N1019, N50000000, N100000000, N1000000000, N2147483647, N2147483648, e1, isb_0]
  | true =>
    rw [c, bn_t] at e1
    rw [Bool.true_and]
    obtain ⟨c1, c2⟩ := Bool.and_eq_true_iff.mp c
    have q1 := of_decide_eq_true c1
    have q2 := (of_decide_eq_true c2).1
    obtain ⟨P, hP⟩ : ∃ P, P = pu pl V 0 := ⟨_, rfl⟩
    rw [← hP] at e2 pb ⊢
    have p7 := hpl.1
    obtain ⟨x, hx⟩ : ∃ x, x = pl u := ⟨_, rfl⟩
    rw [← hx] at p7 ⊢
    have xb : 0 ≤ x ∧ x ≤ 120 := by rw [hx]; exact hpl.2.2
    by_cases le : P - x + q ≤ W
    · rw [decide_eq_true le, bn_t]
      unfold f_X3_canBePlanned f_X3_canBePlanned_34
      clear hM
      simp (disch := omega) only [↓reduceIte, gd_t, bd_s, nm_W, nm_I, I_add, I_sub, I_mul, I_neg, I_le_t, I_le_f, I_lt_t, I_lt_f, I_eq_t, I_eq_f, I_inb', I_ix', Int.toNat_natCast, decide_true, decide_false, Bool.not_false, Bool.not_true, if_true, if_false, wi_eq, wi_eq', wi_ne, wi_row, wi_2, N0, N1, N2, N3, N4, N5, N6, N7, N8, N9, N10, N11, N12, N13, N14, N15, N16, N17, N18, N19, N20, N21, N22, N23, N24, N25, N26, N27, N28, N29, N30, N31, N32, N33, N34, N35, N36, N37, N38, N39, N40, N41, N42, N43, N45, N48, N57, N59, N88, N89, N97, N99, N120, N121, N122, N179, N200, N255, N300, N400, N880, N900, N999, N1019, N50000000, N100000000, N1000000000, N2147483647, N2147483648, e1, e2, p7, w0, isb_1]
    · rw [decide_eq_false le, bn_f]
      unfold f_X3_canBePlanned f_X3_canBePlanned_33 f_X3_canBePlanned_34
      clear hM
      simp (disch := omega) only [↓reduceIte, gd_t, bd_s, nm_W, nm_I, I_add, I_sub, I_mul, I_neg, I_le_t, I_le_f, I_lt_t, I_lt_f, I_eq_t, I_eq_f, I_inb', I_ix', Int.toNat_natCast, decide_true, decide_false, Bool.not_false, Bool.not_true, if_true, if_false, wi_eq, wi_eq', wi_ne, wi_row, wi_2, N0, N1, N2, N3, N4, N5, N6, N7, N8, N9, N10, N11, N12, N13, N14, N15, N16, N17, N18, N19, N20, N21, N22, N23, N24, N25, N26, N27, N28, N29, N30, N31, N32, N33, N34, N35, N36, N37, N38, N39, N40, N41, N42, N43, N45, N48, N57, N59, N88, N89, N97, N99, N120, N121, N122, N179, N200, N255, N300, N400, N880, N900, N999, N1019, N50000000, N100000000, N1000000000, N2147483647, N2147483648, e1, e2, p7, w0, isb_0]
theorem plan_1 {τ : Wd} {v q : Int} (e : f_X7_isVenue (I v) (wi τ 102 0 (I 0)) = some (I 0, wi τ 102 0 (I 0))) : f_X7_plan (I v) (I q) τ = some (I (-1), refW τ (I 1)) := by
  unfold f_X7_plan refW
  simp (disch := omega) only [↓reduceIte, gd_t, bd_s, nm_W, nm_I, I_add, I_sub, I_mul, I_neg, I_le_t, I_le_f, I_lt_t, I_lt_f, I_eq_t, I_eq_f, I_inb', I_ix', Int.toNat_natCast, decide_true, decide_false, Bool.not_false, Bool.not_true, if_true, if_false, wi_eq, wi_eq', wi_ne, wi_row, wi_2, N0, N1, N2, N3, N4, N5, N6, N7, N8, N9, N10, N11, N12, N13, N14, N15, N16, N17, N18, N19, N20, N21, N22, N23, N24, N25, N26, N27, N28, N29, N30, N31, N32, N33, N34, N35, N36, N37, N38, N39, N40, N41, N42, N43, N45, N48, N57, N59, N88, N89, N97, N99, N120, N121, N122, N179, N200, N255, N300, N400, N880, N900, N999, N1019, N50000000, N100000000, N1000000000, N2147483647, N2147483648, e, refR]
theorem plan_r {V u : Nat} {τ : Wd} {d : MD} {p W q y : Int} {pl : Nat → Int} (u5 : u < 5) (e : f_X7_isVenue (I (u : Int)) (wi τ 102 0 (I 0)) = some (I 1, wi τ 102 0 (I 0))) (e1 : f_X7_canHave (I (u : Int)) (I q) (wi τ 102 0 (I 0)) = some (I (bn (hv_ d p u q)), wi τ 102 0 (I 0))) (e2 : f_X7_planUnits (wi τ 102 0 (I 0)) = some (I (pu pl V 0), wi τ 102 0 (I 0))) (pb : 0 ≤ pu pl V 0 ∧ pu pl V 0 ≤ 600) (h43 : τ.1 112 (43 + u) = I (pl u)) (xb : 0 ≤ pl u ∧ pl u ≤ 120) (h35 : τ.1 112 35 = I W) (hW : 0 ≤ W ∧ W ≤ 120) (h36 : τ.1 112 36 = I y) (hy : 0 ≤ y ∧ y ≤ 1) (db : dep d p u ≤ 594) :
    f_X7_plan (I (u : Int)) (I q) τ = if pk d p W pl V u q = false then some (I (-1), refW τ (I 2)) else if y = 1 then some (I (-1), refW τ (I 5)) else some (I (pl u), wi (wi (wi (wi τ 102 0 (I 0)) 112 (43 + u) (I q)) 102 1 (I 0)) 102 2 (I (-1))) := by
  have w35 : Int.toNat 35 = 35 := rfl
  have w36 : Int.toNat 36 = 36 := rfl
  have t1 : ((43 : Int) + (u : Int)).toNat = 43 + u := by omega
  unfold pk
  cases c : hv_ d p u q with
  | false =>
    rw [Bool.false_and, if_pos rfl]
    rw [c, bn_f] at e1
    unfold f_X7_plan f_X7_plan_54 refW
    simp (disch := omega) only [↓reduceIte, gd_t, bd_s, nm_W, nm_I, I_add, I_sub, I_mul, I_neg, I_le_t, I_le_f, I_lt_t, I_lt_f, I_eq_t, I_eq_f, I_inb', I_ix', Int.toNat_natCast, decide_true, decide_false, Bool.not_false, Bool.not_true, if_true, if_false, wi_eq, wi_eq', wi_ne, wi_row, wi_2, N0, N1, N2, N3, N4, N5, N6, N7, N8, N9, N10, N11, N12, N13, N14, N15, N16, N17, N18, N19, N20, N21, N22, N23, N24, N25, N26, N27, N28, N29, N30, N31, N32, N33, N34, N35, N36, N37, N38, N39, N40, N41, N42, N43, N45, N48, N57, N59, N88, N89, N97, N99, N120, N121, N122, N179, N200, N255, N300, N400, N880, N900, N999, N1019, N50000000, N100000000, N1000000000, N2147483647, N2147483648, e, e1, refR]
  | true =>
    rw [c, bn_t] at e1
    rw [Bool.true_and]
    obtain ⟨q1, -, q2⟩ := of_decide_eq_true c
    obtain ⟨P, hP⟩ : ∃ P, P = pu pl V 0 := ⟨_, rfl⟩
    rw [← hP] at e2 pb ⊢
    obtain ⟨x, hx⟩ : ∃ x, x = pl u := ⟨_, rfl⟩
    rw [← hx] at h43 xb ⊢
    by_cases le : P - x + q ≤ W
    · rw [decide_eq_true le, if_neg (show ¬ true = false by decide)]
      by_cases cy : y = 1
      · rw [if_pos cy]
        unfold f_X7_plan refW
        simp (disch := omega) only [↓reduceIte, gd_t, bd_s, nm_W, nm_I, I_add, I_sub, I_mul, I_neg, I_le_t, I_le_f, I_lt_t, I_lt_f, I_eq_t, I_eq_f, I_inb', I_ix', Int.toNat_natCast, decide_true, decide_false, Bool.not_false, Bool.not_true, if_true, if_false, wi_eq, wi_eq', wi_ne, wi_row, wi_2, N0, N1, N2, N3, N4, N5, N6, N7, N8, N9, N10, N11, N12, N13, N14, N15, N16, N17, N18, N19, N20, N21, N22, N23, N24, N25, N26, N27, N28, N29, N30, N31, N32, N33, N34, N35, N36, N37, N38, N39, N40, N41, N42, N43, N45, N48, N57, N59, N88, N89, N97, N99, N120, N121, N122, N179, N200, N255, N300, N400, N880, N900, N999, N1019, N50000000, N100000000, N1000000000, N2147483647, N2147483648, e, e1, e2, t1, h43, w35, h35, w36, h36, refR]
      · rw [if_neg cy]
        unfold f_X7_plan
        simp (disch := omega) only [↓reduceIte, gd_t, bd_s, nm_W, nm_I, I_add, I_sub, I_mul, I_neg, I_le_t, I_le_f, I_lt_t, I_lt_f, I_eq_t, I_eq_f, I_inb', I_ix', Int.toNat_natCast, decide_true, decide_false, Bool.not_false, Bool.not_true, if_true, if_false, wi_eq, wi_eq', wi_ne, wi_row, wi_2, N0, N1, N2, N3, N4, N5, N6, N7, N8, N9, N10, N11, N12, N13, N14, N15, N16, N17, N18, N19, N20, N21, N22, N23, N24, N25, N26, N27, N28, N29, N30, N31, N32, N33, N34, N35, N36, N37, N38, N39, N40, N41, N42, N43, N45, N48, N57, N59, N88, N89, N97, N99, N120, N121, N122, N179, N200, N255, N300, N400, N880, N900, N999, N1019, N50000000, N100000000, N1000000000, N2147483647, N2147483648, e, e1, e2, t1, h43, w35, h35, w36, h36, goodR]
    · rw [decide_eq_false le, if_pos rfl]
      unfold f_X7_plan f_X7_plan_54 refW
      simp (disch := omega) only [↓reduceIte, gd_t, bd_s, nm_W, nm_I, I_add, I_sub, I_mul, I_neg, I_le_t, I_le_f, I_lt_t, I_lt_f, I_eq_t, I_eq_f, I_inb', I_ix', Int.toNat_natCast, decide_true, decide_false, Bool.not_false, Bool.not_true, if_true, if_false, wi_eq, wi_eq', wi_ne, wi_row, wi_2, N0, N1, N2, N3, N4, N5, N6, N7, N8, N9, N10, N11, N12, N13, N14, N15, N16, N17, N18, N19, N20, N21, N22, N23, N24, N25, N26, N27, N28, N29, N30, N31, N32, N33, N34, N35, N36, N37, N38, N39, N40, N41, N42, N43, N45, N48, N57, N59, N88, N89, N97, N99, N120, N121, N122, N179, N200, N255, N300, N400, N880, N900, N999, N1019, N50000000, N100000000, N1000000000, N2147483647, N2147483648, e, e1, e2, t1, h43, w35, h35, refR]
theorem c_plan {σ : Wd} {m : Nat} {v q a nn : Int} {b : Bool} (hm : σ.2.2 0 4 = m) (bm : bM m = true) (e1 : f_X6_isVenue (I v) σ = some (I a, σ)) (ha : 0 ≤ a ∧ a ≤ 1) (hn : 0 ≤ nn ∧ nn ≤ 1) (h0 : a = 0 → nn = 0) (h1 : a = 1 → f_X3_canBePlanned m (I v) (I q) σ = some (I nn, σ)) (h : σ.1 63 0 = I (bn b)) : f_X6_plan (I v) (I q) σ = f_X6_plan_46 (I v) (I q) (I a) (I nn) (I (bn (!b))) σ := by
  have key : f_X6_plan (I v) (I q) σ = f_X6_plan_31 (I v) (I q) (I a) (I nn) σ := by
    unfold f_X6_plan f_X6_plan_30
    by_cases c1 : a = 0
    · have s0 := h0 c1
      clear h
      simp (disch := omega) only [↓reduceIte, gd_t, bd_s, nm_W, nm_I, I_add, I_sub, I_mul, I_neg, I_le_t, I_le_f, I_lt_t, I_lt_f, I_eq_t, I_eq_f, I_inb', I_ix', Int.toNat_natCast, decide_true, decide_false, Bool.not_false, Bool.not_true, if_true, if_false, wi_eq, wi_eq', wi_ne, wi_row, wi_2, N0, N1, N2, N3, N4, N5, N6, N7, N8, N9, N10, N11, N12, N13, N14, N15, N16, N17, N18, N19, N20, N21, N22, N23, N24, N25, N26, N27, N28, N29, N30, N31, N32, N33, N34, N35, N36, N37, N38, N39, N40, N41, N42, N43, N45, N48, N57, N59, N88, N89, N97, N99, N120, N121, N122, N179, N200, N255, N300, N400, N880, N900, N999, N1019, N50000000, N100000000, N1000000000, N2147483647, N2147483648, e1]
      rw [s0]
    · have e2 := h1 (by omega)
      clear h
      by_cases c2 : nn = 0
      · simp (disch := omega) only [↓reduceIte, gd_t, bd_s, nm_W, nm_I, I_add, I_sub, I_mul, I_neg, I_le_t, I_le_f, I_lt_t, I_lt_f, I_eq_t, I_eq_f, I_inb', I_ix', Int.toNat_natCast, decide_true, decide_false, Bool.not_false, Bool.not_true, if_true, if_false, wi_eq, wi_eq', wi_ne, wi_row, wi_2, N0, N1, N2, N3, N4, N5, N6, N7, N8, N9, N10, N11, N12, N13, N14, N15, N16, N17, N18, N19, N20, N21, N22, N23, N24, N25, N26, N27, N28, N29, N30, N31, N32, N33, N34, N35, N36, N37, N38, N39, N40, N41, N42, N43, N45, N48, N57, N59, N88, N89, N97, N99, N120, N121, N122, N179, N200, N255, N300, N400, N880, N900, N999, N1019, N50000000, N100000000, N1000000000, N2147483647, N2147483648, e1, hm, bm, e2]
        rw [c2]
      · simp (disch := omega) only [↓reduceIte, gd_t, bd_s, nm_W, nm_I, I_add, I_sub, I_mul, I_neg, I_le_t, I_le_f, I_lt_t, I_lt_f, I_eq_t, I_eq_f, I_inb', I_ix', Int.toNat_natCast, decide_true, decide_false, Bool.not_false, Bool.not_true, if_true, if_false, wi_eq, wi_eq', wi_ne, wi_row, wi_2, N0, N1, N2, N3, N4, N5, N6, N7, N8, N9, N10, N11, N12, N13, N14, N15, N16, N17, N18, N19, N20, N21, N22, N23, N24, N25, N26, N27, N28, N29, N30, N31, N32, N33, N34, N35, N36, N37, N38, N39, N40, N41, N42, N43, N45, N48, N57, N59, N88, N89, N97, N99, N120, N121, N122, N179, N200, N255, N300, N400, N880, N900, N999, N1019, N50000000, N100000000, N1000000000, N2147483647, N2147483648, e1, hm, bm, e2]
        rw [show nn = 1 by omega]
  rw [key]
  unfold f_X6_plan_31
  cases b with
  | false =>
    have h : σ.1 63 0 = (0 : Int32) := h
    rw [if_pos h]
    rfl
  | true =>
    have h : ¬ σ.1 63 0 = (0 : Int32) := by rw [h]; decide
    rw [if_neg h]
    rfl
set_option maxHeartbeats 1000000 in
theorem m_plan (x y : Int32) : MT (f_X6_plan x y) (f_X7_plan x y) := by
  intro σ τ B ⟨m, V, E, pres, kp, d, p, L, W, dl, pl, et, b, t, s, rd, h, n, g, hG⟩ hB
  obtain ⟨v, rfl, hv⟩ := argI x
  obtain ⟨q, rfl, hq⟩ := argI y
  obtain ⟨bm, m10, m63⟩ := bMm hG.1
  have m24 : m = 11 ∨ m = 24 := by have := hG.1; omega
  have hQ := hG.2.2.1.1
  have hM0 := hQ.1
  have h5 := hM0.1.1
  have g21 : (wi τ 102 0 (I 0)).1 102 21 = I (bn pres) := by rw [wi_ne (by decide)]; exact hG.2.2.2.1.2.1
  have g14 : (wi τ 102 0 (I 0)).1 102 14 = I (V : Int) := by rw [wi_ne (by decide)]; exact hM0.2.2.1.1
  have c0 := cIsV (σ := σ) hv hG.2.1 bm hM0.2.1.1 h5
  have pb := pu_bnd (QM_pb hM0) V 0 (by omega)
  obtain ⟨nn, hn, hn0, hn1⟩ : ∃ nn : Int, (0 ≤ nn ∧ nn ≤ 1) ∧ (¬ (0 ≤ v ∧ v < (V : Int)) → nn = 0) ∧ (∀ u : Nat, v = (u : Int) → u < V → nn = bn (pk d p W pl V u q)) := by
    by_cases y : 0 ≤ v ∧ v < (V : Int)
    · obtain ⟨u, rfl⟩ := Int.eq_ofNat_of_zero_le y.1
      exact ⟨bn (pk d p W pl V u q), bn_bnd _, fun q => absurd y q, fun u' h1 _ => by rw [show u' = u by omega]⟩
    · exact ⟨0, by omega, fun _ => rfl, fun u h1 h2 => absurd ⟨by omega, by omega⟩ y⟩
  have c1 := c_plan (q := q) hG.2.1 bm c0 (bn_bnd _) hn (fun z => hn0 (bn_0 z)) (fun z => by
    have y := bn_1 z
    obtain ⟨u, rfl⟩ := Int.eq_ofNat_of_zero_le y.1
    rw [hn1 u rfl (by omega)]
    exact c_cbp hM0 (by omega) hq) hQ.2.2.1.1.1
  have er : pres = true → 0 ≤ v ∧ v < (V : Int) → ∃ u : Nat, v = (u : Int) ∧ u < V ∧ f_X7_plan (I v) (I q) τ = if pk d p W pl V u q = false then some (I (-1), refW τ (I 2)) else if bn b = 1 then some (I (-1), refW τ (I 5)) else some (I (pl u), wi (wi (wi (wi τ 102 0 (I 0)) 112 (43 + u) (I q)) 102 1 (I 0)) 102 2 (I (-1))) := fun hp y => by
    have ev := rIsV1 (τ := wi τ 102 0 (I 0)) (x := bn pres) hv g21 (by rw [hp]; rfl) g14 h5 y.1 y.2
    obtain ⟨u, rfl⟩ := Int.eq_ofNat_of_zero_le y.1
    have hu : u < V := by omega
    have M2 := QM_wi m10 hM0 (I 0)
    have hpl := hM0.2.2.2.2.2.2.2 u hu
    exact ⟨u, rfl, hu, plan_r (by omega) ev (rHad (z := q) M2.2.2.1 M2.1 hu (QM_p M2) M2.2.2.2.1.2.1 hq) (rPU M2.2.2.1.1 h5 (fun v hv => (M2.2.2.2.2.2.2.2 v hv).2.1)) ⟨pb.1, by omega⟩ hpl.2.1 hpl.2.2 hM0.2.2.2.2.2.1.2.1 hM0.2.2.2.2.2.1.2.2 hQ.2.2.1.1.2 (bn_bnd b) (dep_bnd hM0.1 hu).2⟩
  obtain ⟨x, σ', τ', k1, k2, k3⟩ := act_ok (B' := B + 200) (a := bn (decide (0 ≤ v ∧ v < (V : Int)))) (nn := nn) (ss := bn (!b)) (low := I (-1)) (K := fun σ2 => gd (bM (σ2.2.2 0 4)) (gd (inb (I v) 5) (gd (bM (σ2.2.2 0 4)) (gd (inb (I v) 5) (nmW (wi σ2 ((σ2.2.2 0 4) + 7) (ix (I v)) (I q)) fun σ5 => some (σ2.1 ((σ2.2.2 0 4) + 7) (ix (I v)), σ5)))))) (fr := f_X7_plan (I v) (I q))
    hG (by omega) (bn_bnd _) hn (bn_bnd _)
    (fun hc => by
      rcases tc_cases (pres := pres) (a := bn (decide (0 ≤ v ∧ v < (V : Int)))) (n := nn) (s := bn (!b)) with ⟨q1, q2⟩ | ⟨q1, q2, q3⟩ | ⟨q1, q2, q3, q4⟩ | ⟨q1, q2, q3, q4, q5⟩ | ⟨-, -, -, -, q2⟩
      · rw [q2]; exact plan_1 (rIsV0 hv g21 (bn_bnd _) g14 h5 (Or.inl (by rw [q1]; rfl)))
      · rw [q3]; exact plan_1 (rIsV0 hv g21 (bn_bnd _) g14 h5 (Or.inr (bn_0 q2)))
      · obtain ⟨u, e1, e2, e⟩ := er q1 (bn_n0 q2)
        have pz : pk d p W pl V u q = false := by
          have := hn1 u e1 e2
          rw [q3] at this
          cases h : pk d p W pl V u q with
          | false => rfl
          | true => rw [h] at this; cases this
        rw [q4, e, if_pos pz]; rfl
      · obtain ⟨u, e1, e2, e⟩ := er q1 (bn_n0 q2)
        have pz : ¬ pk d p W pl V u q = false := fun z => by
          have := hn1 u e1 e2
          rw [z] at this
          exact q3 this
        rw [q5, e, if_neg pz, if_pos (by cases b with
          | true => rfl
          | false => cases q4)]; rfl
      · exact absurd q2 hc)
    (fun hp ha hnn hs => by
      obtain ⟨u, rfl, hu, e⟩ := er hp (bn_1 ha)
      have bf : b = false := by
        cases e : b with
        | true => rw [e] at hs; cases hs
        | false => rfl
      subst bf
      have pz : pk d p W pl V u q = true := by
        have := hn1 u rfl hu
        rw [hnn] at this
        cases h : pk d p W pl V u q with
        | true => rfl
        | false => rw [h] at this; cases this
      rw [if_neg (by rw [pz]; decide), if_neg (by decide)] at e
      have qb : 0 ≤ q ∧ q ≤ 120 := by
        have z := pk_120 (d := d) (p := p) (q := q) (QM_pb hM0) hu hM0.2.2.2.2.2.1.2.2.2
        rw [pz] at z
        obtain ⟨z1, -⟩ := Bool.and_eq_true_iff.mp z
        obtain ⟨z3, z4⟩ := Bool.and_eq_true_iff.mp z1
        exact ⟨(of_decide_eq_true z4).1, of_decide_eq_true z3⟩
      obtain ⟨hM, hE, hR, hN, hP, hL, hnp, hrd, hb, hz⟩ := hQ
      obtain ⟨τ', hτ'⟩ : ∃ x, x = wi (wi (wi (wi τ 102 0 (I 0)) 112 (43 + u) (I q)) 102 1 (I 0)) 102 2 (I (-1)) := ⟨_, rfl⟩
      obtain ⟨σ', hσ'⟩ : ∃ x, x = wi (wi σ 0 12 (I 0)) (m + 7) u (I q) := ⟨_, rfl⟩
      have fc : ∀ k, k ≠ 0 → k ≠ m + 7 → σ'.1 k = σ.1 k := fun k g1 g2 => by rw [hσ', wi_row g2, wi_row g1]
      have fk : ∀ k, k ≠ 102 → k ≠ 112 → τ'.1 k = τ.1 k := fun k g1 g2 => by rw [hτ', wi_row g1, wi_row g1, wi_row g2, wi_row g1]
      have f2 : ∀ i, 3 ≤ i → τ'.1 102 i = τ.1 102 i := fun i g1 => by rw [hτ', wi_ne (by omega), wi_ne (by omega), wi_row (by decide), wi_ne (by omega)]
      have fx : ∀ i, i ≠ 43 + u → τ'.1 112 i = τ.1 112 i := fun i g1 => by rw [hτ', wi_row (by decide), wi_row (by decide), wi_ne g1, wi_row (by decide)]
      have QQ' : QQ m 63 σ' τ' V E d p L W dl (fun j => if j = u then q else pl j) et false t s rd h n g := by
        refine ⟨QM_pl hM (fun k g1 g2 g3 => fc k (by omega) g3) (fun w hw => ?_) (fun i g1 g2 => f2 i (by omega)) (fk 103 (by decide) (by decide)) (fk 104 (by decide) (by decide)) (fun i hi => fx i (by omega)) (fun w hw => ?_) (fun w hw => ?_), QE_congr hE (by rw [fc m (by omega) (by omega)]) (fc _ (by omega) (by omega)) (fc _ (by omega) (by omega)) (fc _ (by omega) (by omega)) (f2 15 (by decide)) (fk 105 (by decide) (by decide)),
          QR_rows hR (fun i _ => by rw [fc 63 (by decide) (by omega)]) (fun i _ _ => fx i (by omega)) (by rw [fc 63 (by decide) (by omega), fx 42 (by omega)]; exact hR.2.2.2.2.2.2), ?_, fun w hw => QP_congr (hP w hw) (fun k g1 g2 => by rw [fc k (by omega) (by omega)]) (fun i g1 g2 => fx i (by omega)) (fk 103 (by decide) (by decide)), LR_congr hL rfl rfl (fun k g1 g2 => fc k (by omega) (by omega)) (fun i hi => fx i (by omega)), hnp, by rw [fc 63 (by decide) (by omega)]; exact hrd, hb, hz⟩
        · show _ = I (if w = u then q else pl w)
          by_cases z : w = u
          · rw [if_pos z, z, hσ', wi_eq]
          · rw [if_neg z, hσ', wi_ne z, wi_row (by omega)]; exact (hM.2.2.2.2.2.2.2 w hw).1
        · show _ = I (if w = u then q else pl w)
          by_cases z : w = u
          · rw [if_pos z, z, hτ', wi_row (by decide), wi_row (by decide), wi_eq]
          · rw [if_neg z, fx _ (by omega)]; exact (hM.2.2.2.2.2.2.2 w hw).2.1
        · show 0 ≤ (if w = u then q else pl w) ∧ (if w = u then q else pl w) ≤ 120
          by_cases z : w = u
          · rw [if_pos z]; exact qb
          · rw [if_neg z]; exact (hM.2.2.2.2.2.2.2 w hw).2.2
        · obtain ⟨np, n1, n2⟩ := hN
          exact ⟨np, by rw [fc 63 (by decide) (by omega)]; exact n1, n2⟩
      have tB := hG.2.2.1.2
      refine ⟨I (pl u), σ', τ', ?_, by rw [e, hτ'], ⟨m, V, E, pres, kp, d, p, L, W, dl, _, et, false, t, s, rd, h, n, g, GA_act hG hp (by omega) QQ' (by omega) (fun k hk => fc k (by omega) (by omega)) (fun i hi => by rw [hσ', wi_row (by omega), wi_ne hi]) (by rw [hσ', wi_2, wi_2]) (fun k g1 g2 g3 => fk k (by omega) g3) (fun i g1 _ => f2 i g1) (by rw [hσ', wi_row (by omega), wi_eq]) (by rw [hτ', wi_ne (by decide), wi_eq]) (by rw [hτ', wi_eq])⟩, ⟨fun k hk => by rw [hσ', wi_row (by omega)], by rw [hσ', wi_2]⟩, ⟨fun k hk => fk k (by omega) (by omega), by rw [hτ', wi_2, wi_2, wi_2, wi_2]⟩⟩
      have hm : (wi σ 0 12 (I 0)).2.2 0 4 = m := hG.2.1
      have i1 : inb (I (u : Int)) 5 = true := inI (by omega) (by decide)
      have i2 : ix (I (u : Int)) = u := ixI (by omega)
      show gd (bM ((wi σ 0 12 (I 0)).2.2 0 4)) (gd (inb (I (u : Int)) 5) (gd (bM ((wi σ 0 12 (I 0)).2.2 0 4)) (gd (inb (I (u : Int)) 5) (nmW (wi (wi σ 0 12 (I 0)) (((wi σ 0 12 (I 0)).2.2 0 4) + 7) (ix (I (u : Int))) (I q)) fun σ5 => some ((wi σ 0 12 (I 0)).1 (((wi σ 0 12 (I 0)).2.2 0 4) + 7) (ix (I (u : Int))), σ5))))) = _
      rw [hm, bm, i1, gd_t, gd_t, gd_t, gd_t, nm_W, i2, wi_row (show m + 7 ≠ 0 by omega), (hM.2.2.2.2.2.2.2 u hu).1, hσ'])
  refine ⟨x, σ', τ', ?_, k2, k3⟩
  rw [c1]
  exact k1
end
section
/-! PURE: adopt -/
theorem c_ad {m V : Nat} (m10 : 10 < m) (hV : V ≤ 5) (bm : bM m = true) : ∀ (r i n : Nat) (z : Int) (σ : Wd), z = (i : Int) → i + r = V → r < n → σ.2.2 0 4 = m → σ.1 m 3 = I (V : Int) → (∀ j, j < i → σ.1 (m + 7) j = σ.1 5 j) →
    ∃ σ', f_X6_adopt_52 n (I z) σ = some (σ.1 4 0, σ') ∧ (∀ j, j < V → σ'.1 (m + 7) j = σ.1 5 j) ∧ (∀ k, k ≠ m + 7 → σ'.1 k = σ.1 k) ∧ σ'.2 = σ.2
  | 0, i, n + 1, z, σ, hz, hi, _, hm, h3, h => by
    refine ⟨σ, ?_, fun j hj => h j (by omega), fun _ _ => rfl, rfl⟩
    rw [f_X6_adopt_52]
    clear h
    simp (disch := omega) only [↓reduceIte, gd_t, bd_s, nm_W, nm_I, I_add, I_sub, I_mul, I_neg, I_le_t, I_le_f, I_lt_t, I_lt_f, I_eq_t, I_eq_f, I_inb', I_ix', Int.toNat_natCast, decide_true, decide_false, Bool.not_false, Bool.not_true, if_true, if_false, wi_eq, wi_eq', wi_ne, wi_row, wi_2, N0, N1, N2, N3, N4, N5, N6, N7, N8, N9, N10, N11, N12, N13, N14, N15, N16, N17, N18, N19, N20, N21, N22, N23, N24, N25, N26, N27, N28, N29, N30, N31, N32, N33, N34, N35, N36, N37, N38, N39, N40, N41, N42, N43, N45, N48, N57, N59, N88, N89, N97, N99, N120, N121, N122, N179, N200, N255, N300, N400, N880, N900, N999, N1019, N50000000, N100000000, N1000000000, N2147483647, N2147483648, hm, bm, h3]
  | r + 1, i, n + 1, z, σ, hz, hi, hn, hm, h3, h => by
    have tz : z.toNat = i := by omega
    obtain ⟨σ', q1, q2, q3, q4⟩ := c_ad m10 hV bm r (i + 1) n (z + 1) (wi σ (m + 7) i (σ.1 5 i)) (by omega) (by omega) (by omega) hm (by rw [wi_row (by omega)]; exact h3) (fun j hj => by
      rw [wi_row (show 5 ≠ m + 7 by omega)]
      by_cases c : j = i
      · rw [c, wi_eq]
      · rw [wi_ne c]; exact h j (by omega))
    refine ⟨σ', ?_, fun j hj => by rw [q2 j hj, wi_row (by omega)], fun k hk => by rw [q3 k hk, wi_row hk], by rw [q4, wi_2]⟩
    rw [wi_row (show 4 ≠ m + 7 by omega)] at q1
    rw [← q1, f_X6_adopt_52]
    clear h q2
    simp (disch := omega) only [↓reduceIte, gd_t, bd_s, nm_W, nm_I, I_add, I_sub, I_mul, I_neg, I_le_t, I_le_f, I_lt_t, I_lt_f, I_eq_t, I_eq_f, I_inb', I_ix', Int.toNat_natCast, decide_true, decide_false, Bool.not_false, Bool.not_true, if_true, if_false, wi_eq, wi_eq', wi_ne, wi_row, wi_2, N0, N1, N2, N3, N4, N5, N6, N7, N8, N9, N10, N11, N12, N13, N14, N15, N16, N17, N18, N19, N20, N21, N22, N23, N24, N25, N26, N27, N28, N29, N30, N31, N32, N33, N34, N35, N36, N37, N38, N39, N40, N41, N42, N43, N45, N48, N57, N59, N88, N89, N97, N99, N120, N121, N122, N179, N200, N255, N300, N400, N880, N900, N999, N1019, N50000000, N100000000, N1000000000, N2147483647, N2147483648, hm, bm, h3, tz]
theorem r_ad {V : Nat} (hV : V ≤ 5) : ∀ (r i n : Nat) (z : Int) (τ : Wd), z = (i : Int) → i + r = V → r < n → τ.1 102 14 = I (V : Int) → (∀ j, j < i → τ.1 112 (43 + j) = τ.1 117 j) →
    ∃ τ', f_X7_adopt_64 n (I z) τ = some (τ.1 102 37, wi (wi τ' 102 1 (I 0)) 102 2 (I (-1))) ∧ (∀ j, j < V → τ'.1 112 (43 + j) = τ.1 117 j) ∧ (∀ i, i < 43 ∨ 48 ≤ i → τ'.1 112 i = τ.1 112 i) ∧ (∀ k, k ≠ 112 → τ'.1 k = τ.1 k) ∧ τ'.2 = τ.2
  | 0, i, n + 1, z, τ, hz, hi, _, h3, h => by
    refine ⟨τ, ?_, fun j hj => h j (by omega), fun _ _ => rfl, fun _ _ => rfl, rfl⟩
    rw [f_X7_adopt_64]
    clear h
    simp (disch := omega) only [↓reduceIte, gd_t, bd_s, nm_W, nm_I, I_add, I_sub, I_mul, I_neg, I_le_t, I_le_f, I_lt_t, I_lt_f, I_eq_t, I_eq_f, I_inb', I_ix', Int.toNat_natCast, decide_true, decide_false, Bool.not_false, Bool.not_true, if_true, if_false, wi_eq, wi_eq', wi_ne, wi_row, wi_2, N0, N1, N2, N3, N4, N5, N6, N7, N8, N9, N10, N11, N12, N13, N14, N15, N16, N17, N18, N19, N20, N21, N22, N23, N24, N25, N26, N27, N28, N29, N30, N31, N32, N33, N34, N35, N36, N37, N38, N39, N40, N41, N42, N43, N45, N48, N57, N59, N88, N89, N97, N99, N120, N121, N122, N179, N200, N255, N300, N400, N880, N900, N999, N1019, N50000000, N100000000, N1000000000, N2147483647, N2147483648, h3, goodR]
  | r + 1, i, n + 1, z, τ, hz, hi, hn, h3, h => by
    have tz : z.toNat = i := by omega
    have t1 : ((43 : Int) + z).toNat = 43 + i := by omega
    obtain ⟨τ', q1, q2, q3, q4, q5⟩ := r_ad hV r (i + 1) n (z + 1) (wi τ 112 (43 + i) (τ.1 117 i)) (by omega) (by omega) (by omega) (by rw [wi_row (by decide)]; exact h3) (fun j hj => by
      rw [wi_row (show 117 ≠ 112 by decide)]
      by_cases c : j = i
      · rw [c, wi_eq]
      · rw [wi_ne (by omega)]; exact h j (by omega))
    refine ⟨τ', ?_, fun j hj => by rw [q2 j hj, wi_row (by decide)], fun i hi => by rw [q3 i hi, wi_ne (by omega)], fun k hk => by rw [q4 k hk, wi_row hk], by rw [q5, wi_2]⟩
    rw [wi_row (show 102 ≠ 112 by decide)] at q1
    rw [← q1, f_X7_adopt_64]
    clear h q2
    simp (disch := omega) only [↓reduceIte, gd_t, bd_s, nm_W, nm_I, I_add, I_sub, I_mul, I_neg, I_le_t, I_le_f, I_lt_t, I_lt_f, I_eq_t, I_eq_f, I_inb', I_ix', Int.toNat_natCast, decide_true, decide_false, Bool.not_false, Bool.not_true, if_true, if_false, wi_eq, wi_eq', wi_ne, wi_row, wi_2, N0, N1, N2, N3, N4, N5, N6, N7, N8, N9, N10, N11, N12, N13, N14, N15, N16, N17, N18, N19, N20, N21, N22, N23, N24, N25, N26, N27, N28, N29, N30, N31, N32, N33, N34, N35, N36, N37, N38, N39, N40, N41, N42, N43, N45, N48, N57, N59, N88, N89, N97, N99, N120, N121, N122, N179, N200, N255, N300, N400, N880, N900, N999, N1019, N50000000, N100000000, N1000000000, N2147483647, N2147483648, h3, tz, t1]
theorem adopt_r {τ : Wd} {x q a y W : Int} (h : τ.1 102 21 = I x) (hx : 0 ≤ x ∧ x ≤ 1) (h35 : τ.1 112 35 = I W) (e : f_X7_in (I q) (I 1) (I W) (wi τ 102 0 (I 0)) = some (I a, wi τ 102 0 (I 0))) (ha : 0 ≤ a ∧ a ≤ 1) (h36 : τ.1 112 36 = I y) (hy : 0 ≤ y ∧ y ≤ 1) :
    f_X7_adopt (I q) τ = if x = 0 then some (I (-1), refW τ (I 1)) else if a = 0 then some (I (-1), refW τ (I 2)) else if y = 1 then some (I (-1), refW τ (I 5)) else bd (f_X7_laysBest (I q) (I (-1)) (wi τ 102 0 (I 0))) fun _ s => f_X7_adopt_64 FU (I 0) s := by
  have w35 : Int.toNat 35 = 35 := rfl
  have w36 : Int.toNat 36 = 36 := rfl
  by_cases c1 : x = 0
  · rw [if_pos c1]
    unfold f_X7_adopt refW
    simp (disch := omega) only [↓reduceIte, gd_t, bd_s, nm_W, nm_I, I_add, I_sub, I_mul, I_neg, I_le_t, I_le_f, I_lt_t, I_lt_f, I_eq_t, I_eq_f, I_inb', I_ix', Int.toNat_natCast, decide_true, decide_false, Bool.not_false, Bool.not_true, if_true, if_false, wi_eq, wi_eq', wi_ne, wi_row, wi_2, N0, N1, N2, N3, N4, N5, N6, N7, N8, N9, N10, N11, N12, N13, N14, N15, N16, N17, N18, N19, N20, N21, N22, N23, N24, N25, N26, N27, N28, N29, N30, N31, N32, N33, N34, N35, N36, N37, N38, N39, N40, N41, N42, N43, N45, N48, N57, N59, N88, N89, N97, N99, N120, N121, N122, N179, N200, N255, N300, N400, N880, N900, N999, N1019, N50000000, N100000000, N1000000000, N2147483647, N2147483648, h, refR]
  · rw [if_neg c1]
    by_cases c2 : a = 0
    · rw [if_pos c2]
      unfold f_X7_adopt refW
      simp (disch := omega) only [↓reduceIte, gd_t, bd_s, nm_W, nm_I, I_add, I_sub, I_mul, I_neg, I_le_t, I_le_f, I_lt_t, I_lt_f, I_eq_t, I_eq_f, I_inb', I_ix', Int.toNat_natCast, decide_true, decide_false, Bool.not_false, Bool.not_true, if_true, if_false, wi_eq, wi_eq', wi_ne, wi_row, wi_2, N0, N1, N2, N3, N4, N5, N6, N7, N8, N9, N10, N11, N12, N13, N14, N15, N16, N17, N18, N19, N20, N21, N22, N23, N24, N25, N26, N27, N28, N29, N30, N31, N32, N33, N34, N35, N36, N37, N38, N39, N40, N41, N42, N43, N45, N48, N57, N59, N88, N89, N97, N99, N120, N121, N122, N179, N200, N255, N300, N400, N880, N900, N999, N1019, N50000000, N100000000, N1000000000, N2147483647, N2147483648, h, w35, h35, e, refR]
    · rw [if_neg c2]
      by_cases c3 : y = 1
      · rw [if_pos c3]
        unfold f_X7_adopt refW
        simp (disch := omega) only [↓reduceIte, gd_t, bd_s, nm_W, nm_I, I_add, I_sub, I_mul, I_neg, I_le_t, I_le_f, I_lt_t, I_lt_f, I_eq_t, I_eq_f, I_inb', I_ix', Int.toNat_natCast, decide_true, decide_false, Bool.not_false, Bool.not_true, if_true, if_false, wi_eq, wi_eq', wi_ne, wi_row, wi_2, N0, N1, N2, N3, N4, N5, N6, N7, N8, N9, N10, N11, N12, N13, N14, N15, N16, N17, N18, N19, N20, N21, N22, N23, N24, N25, N26, N27, N28, N29, N30, N31, N32, N33, N34, N35, N36, N37, N38, N39, N40, N41, N42, N43, N45, N48, N57, N59, N88, N89, N97, N99, N120, N121, N122, N179, N200, N255, N300, N400, N880, N900, N999, N1019, N50000000, N100000000, N1000000000, N2147483647, N2147483648, h, w35, h35, e, w36, h36, refR]
      · rw [if_neg c3]
        unfold f_X7_adopt
        simp (disch := omega) only [↓reduceIte, gd_t, bd_s, nm_W, nm_I, I_add, I_sub, I_mul, I_neg, I_le_t, I_le_f, I_lt_t, I_lt_f, I_eq_t, I_eq_f, I_inb', I_ix', Int.toNat_natCast, decide_true, decide_false, Bool.not_false, Bool.not_true, if_true, if_false, wi_eq, wi_eq', wi_ne, wi_row, wi_2, N0, N1, N2, N3, N4, N5, N6, N7, N8, N9, N10, N11, N12, N13, N14, N15, N16, N17, N18, N19, N20, N21, N22, N23, N24, N25, N26, N27, N28, N29, N30, N31, N32, N33, N34, N35, N36, N37, N38, N39, N40, N41, N42, N43, N45, N48, N57, N59, N88, N89, N97, N99, N120, N121, N122, N179, N200, N255, N300, N400, N880, N900, N999, N1019, N50000000, N100000000, N1000000000, N2147483647, N2147483648, h, w35, h35, e, w36, h36]
theorem c_adopt {σ : Wd} {m : Nat} {q a W : Int} {b : Bool} (hm : σ.2.2 0 4 = m) (bm : bM m = true) (h0 : σ.1 m 0 = I W) (e : f_X6_within (I q) (I 1) (I W) σ = some (I a, σ)) (h : σ.1 63 0 = I (bn b)) : f_X6_adopt (I q) σ = f_X6_adopt_29 (I q) (I 1) (I a) (I (bn (!b))) σ := by
  unfold f_X6_adopt
  rw [hm, bm, gd_t, h0, show (1 : Int32) = I 1 from rfl, e, bd_s]
  cases b with
  | false =>
    have h : σ.1 63 0 = (0 : Int32) := h
    rw [if_pos h]
    rfl
  | true =>
    have h : ¬ σ.1 63 0 = (0 : Int32) := by rw [h]; decide
    rw [if_neg h]
    rfl
set_option maxHeartbeats 1000000 in
theorem m_adopt (x : Int32) : MT (f_X6_adopt x) (f_X7_adopt x) := by
  intro σ τ B ⟨m, V, E, pres, kp, d, p, L, W, dl, pl, et, b, t, s, rd, h, n, g, hG⟩ hB
  obtain ⟨q, rfl, hq⟩ := argI x
  obtain ⟨bm, m10, m63⟩ := bMm hG.1
  have m24 : m = 11 ∨ m = 24 := by have := hG.1; omega
  have hQ := hG.2.2.1.1
  have hM0 := hQ.1
  have h5 := hM0.1.1
  have hW := hM0.2.2.2.2.2.1
  have c1 := cWithin (σ := σ) (lo := 1) (hi := W) hq (by unfold R; omega) (by unfold R; omega)
  have c2 := rIn (σ := wi τ 102 0 (I 0)) (lo := 1) (hi := W) hq (by unfold R; omega) (by unfold R; omega)
  have er := adopt_r (q := q) hG.2.2.2.1.2.1 (bn_bnd pres) hW.2.1 c2 (bn_bnd _) hQ.2.2.1.1.2 (bn_bnd b)
  obtain ⟨x, σ', τ', k1, k2, k3⟩ := act_ok (B' := B + 200) (a := 1) (nn := bn (decide (1 ≤ q ∧ q ≤ W))) (ss := bn (!b)) (low := I (-1)) (K := fun σ2 => gd (bM (σ2.2.2 0 4)) (bd (f_X1_choose (σ2.2.2 0 4) (I q) (I (-1)) σ2) fun _ σ4 => (f_X6_adopt_52 FU (I 0) σ4))) (fr := f_X7_adopt (I q))
    hG (by omega) (by omega) (bn_bnd _) (bn_bnd _)
    (fun hc => by
      rw [er]
      rcases tc_cases (pres := pres) (a := 1) (n := bn (decide (1 ≤ q ∧ q ≤ W))) (s := bn (!b)) with ⟨q1, q2⟩ | ⟨-, q2, -⟩ | ⟨q1, -, q2, q3⟩ | ⟨q1, -, q2, q3, q4⟩ | ⟨-, -, -, -, q2⟩
      · rw [q2, if_pos (by rw [q1]; rfl)]; rfl
      · omega
      · rw [q3, if_neg (by rw [q1]; decide), if_pos q2]; rfl
      · rw [q4, if_neg (by rw [q1]; decide), if_neg q2, if_pos (by cases b with
          | true => rfl
          | false => cases q3)]; rfl
      · exact absurd q2 hc)
    (fun hp _ hn hs => by
      have y := bn_1 hn
      have bf : b = false := by
        cases e : b with
        | true => rw [e] at hs; cases hs
        | false => rfl
      subst bf
      rw [if_neg (by rw [hp]; decide), if_neg (by omega), if_neg (by decide)] at er
      have hm : (wi σ 0 12 (I 0)).2.2 0 4 = m := hG.2.1
      have M2 := QM_wi m10 hM0 (I 0)
      obtain ⟨N, hN, N1⟩ := nat_of (show 0 ≤ q by omega) (by omega)
      obtain ⟨σ1, a1, a2, a3, a4, a5, a6⟩ := cChoose (q := N) (but := -1) m10 M2.1 (QM_p M2) (by unfold R; omega) N1 M2.2.1 M2.2.2.2.1.1
      obtain ⟨τ1, b1, b2, b3, b4, b5, b6, b7⟩ := rBest (q := N) (but := -1) M2.1 (QM_p M2) (by unfold R; omega) N1 M2.2.2.1 M2.2.2.2.1.2.1
      rw [← hN] at a1 b1
      have ub := bu_le (f := lcs d p (-1) V V) N
      have un : lcs d p (-1) V V (bu (lcs d p (-1) V V) N) ≠ none := bu_some (by rw [lcs_0]; exact fun h => by cases h) N
      have ss := shs_sum (p := p) (but := -1) M2.1 V _ (Nat.le_refl _) un
      rw [Nat.sub_self] at ss
      obtain ⟨U, hU⟩ : ∃ U, U = bu (lcs d p (-1) V V) N := ⟨_, rfl⟩
      rw [← hU] at a2 b2 a4 b4 ub ss
      have sb : ∀ w, w < V → 0 ≤ ((shs d p (-1) V V U w : Nat) : Int) ∧ ((shs d p (-1) V V U w : Nat) : Int) ≤ 120 := fun w hw => by
        have := (pu_ge (f := fun v => (shs d p (-1) V V U v : Int)) (w := w) V 0 (fun _ _ _ => by show (0 : Int) ≤ ((_ : Nat) : Int); omega) (by omega) (by omega)).1
        rw [ss] at this
        have this : ((shs d p (-1) V V U w : Nat) : Int) ≤ _ := this
        exact ⟨by omega, by omega⟩
      obtain ⟨σ2, d1, d2, d3, d4⟩ := c_ad m10 h5 bm V 0 FU 0 σ1 rfl (by omega) (by show _ < 6000; omega) (by rw [a6]; exact hm) (by rw [a5 m (by omega)]; exact M2.2.1.1) (fun j hj => absurd hj (by omega))
      obtain ⟨τ2, e1, e2, e3, e4, e5⟩ := r_ad h5 V 0 FU 0 τ1 rfl (by omega) (by show _ < 6000; omega) (by rw [b6 14 (by decide) (by decide)]; exact M2.2.2.1.1) (fun j hj => absurd hj (by omega))
      rw [a2] at d1
      rw [b2] at e1
      obtain ⟨hM, hE, hR, hNe, hP, hL, hnp, hrd, hb, hz⟩ := hQ
      obtain ⟨τ', hτ'⟩ : ∃ x, x = wi (wi τ2 102 1 (I 0)) 102 2 (I (-1)) := ⟨_, rfl⟩
      have fc : ∀ k, k ≠ 0 → k < 4 ∨ 9 < k → k ≠ m + 7 → σ2.1 k = σ.1 k := fun k g1 g2 g3 => by rw [d3 k g3, a5 k (by omega), wi_row g1]
      have f0 : ∀ i, i ≠ 12 → σ2.1 0 i = σ.1 0 i := fun i g1 => by rw [d3 0 (by omega), a5 0 (by omega), wi_ne g1]
      have fk : ∀ k, k ≠ 102 → k ≠ 112 → k ≠ 116 → k ≠ 117 → τ'.1 k = τ.1 k := fun k g1 g2 g3 g4 => by rw [hτ', wi_row g1, wi_row g1, e4 k g2, b5 k g1 (by omega) (by omega), wi_row g1]
      have f2 : ∀ i, 3 ≤ i → i < 37 ∨ 39 < i → τ'.1 102 i = τ.1 102 i := fun i g1 g2 => by rw [hτ', wi_ne (by omega), wi_ne (by omega), e4 102 (by decide), b6 i (by omega) (by omega), wi_ne (by omega)]
      have fx : ∀ i, i < 43 ∨ 48 ≤ i → τ'.1 112 i = τ.1 112 i := fun i g1 => by rw [hτ', wi_row (by decide), wi_row (by decide), e3 i g1, b5 112 (by decide) (by decide) (by decide), wi_row (by decide)]
      have QQ' : QQ m 63 σ2 τ' V E d p L W dl (fun w => ((shs d p (-1) V V U w : Nat) : Int)) et false t s rd h n g := by
        refine ⟨QM_pl hM (fun k g1 g2 g3 => fc k (by omega) (by omega) g3) (fun w hw => by rw [d2 w hw]; exact a4 w hw) (fun i g1 g2 => f2 i (by omega) (by omega)) (fk 103 (by decide) (by decide) (by decide) (by decide)) (fk 104 (by decide) (by decide) (by decide) (by decide)) (fun i hi => fx i (by omega)) (fun w hw => by rw [hτ', wi_row (by decide), wi_row (by decide), e2 w hw]; exact b4 w hw) sb, QE_congr hE (by rw [fc m (by omega) (by omega) (by omega)]) (fc _ (by omega) (by omega) (by omega)) (fc _ (by omega) (by omega) (by omega)) (fc _ (by omega) (by omega) (by omega)) (f2 15 (by decide) (by decide)) (fk 105 (by decide) (by decide) (by decide) (by decide)),
          QR_rows hR (fun i _ => by rw [fc 63 (by decide) (by decide) (by omega)]) (fun i _ _ => fx i (by omega)) (by rw [fc 63 (by decide) (by decide) (by omega), fx 42 (by omega)]; exact hR.2.2.2.2.2.2), ?_, fun w hw => QP_congr (hP w hw) (fun k g1 g2 => by rw [fc k (by omega) (by omega) (by omega)]) (fun i g1 g2 => fx i (by omega)) (fk 103 (by decide) (by decide) (by decide) (by decide)), LR_congr hL rfl rfl (fun k g1 g2 => fc k (by omega) (by omega) (by omega)) (fun i hi => fx i (by omega)), hnp, by rw [fc 63 (by decide) (by decide) (by omega)]; exact hrd, hb, hz⟩
        obtain ⟨np, n1, n2⟩ := hNe
        exact ⟨np, by rw [fc 63 (by decide) (by decide) (by omega)]; exact n1, n2⟩
      have tB := hG.2.2.1.2
      refine ⟨I (U : Int), σ2, τ', ?_, by rw [er, b1, bd_s, e1, hτ'], ⟨m, V, E, pres, kp, d, p, L, W, dl, _, et, false, t, s, rd, h, n, g, GA_act hG hp (by omega) QQ' (by omega) (fun k hk => fc k (by omega) (by omega) (by omega)) f0 (by rw [d4, a6, wi_2]) (fun k g1 g2 g3 => fk k (by omega) g3 (by omega) (by omega)) f2 (by rw [d3 0 (by omega), a5 0 (by omega), wi_eq]) (by rw [hτ', wi_ne (by decide), wi_eq]) (by rw [hτ', wi_eq])⟩, ⟨fun k hk => by rw [fc k (by omega) (by omega) (by omega), wi_row (by omega)], by rw [d4, a6]⟩, ⟨fun k hk => fk k (by omega) (by omega) (by omega) (by omega), by rw [hτ', wi_2, wi_2, e5, b7, wi_2]⟩⟩
      show gd (bM ((wi σ 0 12 (I 0)).2.2 0 4)) (bd (f_X1_choose ((wi σ 0 12 (I 0)).2.2 0 4) (I q) (I (-1)) (wi σ 0 12 (I 0))) fun _ σ4 => (f_X6_adopt_52 FU (I 0) σ4)) = _
      rw [hm, bm, gd_t, a1, bd_s, d1])
  refine ⟨x, σ', τ', ?_, k2, k3⟩
  rw [c_adopt hG.2.1 bm hW.1 c1 hQ.2.2.1.1.1]
  exact k1
end
section
/-! PURE: will -/
theorem GA_act2 {m V E : Nat} {σ τ σ' τ' : Wd} {pres kp : Bool} {d d' : MD} {p L W W' : Int} {dl pl pl' et : Nat → Int} {b b' : Bool} {t s rd t' s' rd' : Int} {h n g h' n' g' : Nat → Int} {B B' : Int} (hG : GA m σ τ V E pres kp d p L W dl pl et b t s rd h n g B) (hp : pres = true) (hB : B ≤ B')
    (hQ : QQ m 63 σ' τ' V E d' p L W' dl pl' et b' t' s' rd' h' n' g') (ht : t' ≤ B') (c1 : ∀ k, (1 ≤ k ∧ k < 4) ∨ (37 ≤ k ∧ k < 50) ∨ (76 ≤ k ∧ k < 89) → σ'.1 k = σ.1 k) (c2 : ∀ i, i ≠ 12 → σ'.1 0 i = σ.1 0 i) (c3 : σ'.2 = σ.2) (e1 : ∀ k, 103 ≤ k → k < 116 → k ≠ 112 → k ≠ 114 → τ'.1 k = τ.1 k) (e2 : ∀ i, 3 ≤ i → i < 37 ∨ 39 < i → τ'.1 102 i = τ.1 102 i)
    (t1 : σ'.1 0 12 = I 0) (t2 : τ'.1 102 1 = I 0) (t3 : τ'.1 102 2 = I (-1)) : GA m σ' τ' V E pres kp d' p L W' dl pl' et b' t' s' rd' h' n' g' B' := by
  obtain ⟨g1, g2, -, ⟨g5, g6, g7⟩, ⟨g8, g9, g10⟩, ⟨g11, g12⟩, ⟨tp, p1, p2, p3, p4⟩⟩ := hG
  refine ⟨by rw [c3]; exact g1, by rw [c3]; exact g2, ⟨hQ, ht⟩, ⟨by rw [c2 10 (by decide)]; exact g5, by rw [e2 21 (by decide) (by decide)]; exact g6, fun q => by rw [hp] at q; cases q⟩,
    ⟨by rw [c2 11 (by decide)]; exact g8, by rw [e2 25 (by decide) (by decide)]; exact g9, fun q => ⟨hp, KK_congr (g10 q).2 hB (fun k a1 a2 => c1 k (by omega)) (fun k a1 a2 => c1 k (by omega)) (fun i a1 a2 => e2 i (by omega) (by omega)) (e1 103 (by decide) (by decide) (by decide) (by decide)) (e1 104 (by decide) (by decide) (by decide) (by decide)) (e1 105 (by decide) (by decide) (by decide) (by decide)) (e1 113 (by decide) (by decide) (by decide) (by decide))⟩⟩,
    ⟨⟨by rw [t1, t2], fun q => ?_, fun _ => t3⟩, by rw [c2 13 (by decide), e2 33 (by decide) (by decide)]; exact g12⟩, ⟨tp, p1, by rw [c1 1 (by decide)]; exact p2, by rw [e2 27 (by decide) (by decide)]; exact p3, fun i hi => by rw [c1 2 (by decide), e1 115 (by decide) (by decide) (by decide) (by decide)]; exact p4 i hi⟩⟩
  rw [t1, I_eq (by unfold R; omega) (by unfold R; omega)] at q
  omega
/-- what a look ahead leaves alone -/
def TW (σ τ σ' τ' : Wd) : Prop := ((∀ k, k < 4 ∨ 9 < k → k < 50 ∨ 62 < k → k < 89 ∨ 101 < k → σ'.1 k = σ.1 k) ∧ σ'.2 = σ.2) ∧ ((∀ k, k ≠ 102 → k ≠ 112 → k ≠ 116 → k ≠ 117 → τ'.1 k = τ.1 k) ∧ (∀ i, i ≠ 37 → i ≠ 38 → τ'.1 102 i = τ.1 102 i) ∧ τ'.2 = τ.2)
theorem TWt {σ τ σ1 τ1 σ2 τ2 : Wd} (h : TW σ τ σ1 τ1) (g : TW σ1 τ1 σ2 τ2) : TW σ τ σ2 τ2 := ⟨⟨fun k a b c => by rw [g.1.1 k a b c, h.1.1 k a b c], by rw [g.1.2, h.1.2]⟩, ⟨fun k a b c e => by rw [g.2.1 k a b c e, h.2.1 k a b c e], fun i a b => by rw [g.2.2.1 i a b, h.2.2.1 i a b], by rw [g.2.2.2, h.2.2.2]⟩⟩
theorem TWo {σ τ τ1 : Wd} (h : OF τ τ1) : TW σ τ σ τ1 := ⟨⟨fun _ _ _ _ => rfl, rfl⟩, ⟨fun k a _ c e => h.1 k a c e, h.2.1, h.2.2⟩⟩
theorem TWk {σ τ σ' τ' : Wd} (h : TF 50 89 σ τ σ' τ') : TW σ τ σ' τ' := ⟨⟨fun k a b c => h.1.1 k a (by omega) (by omega), h.1.2⟩, h.2⟩
theorem QQ_of {m r V E : Nat} {d : MD} {σ τ τ1 : Wd} {p L W : Int} {dl pl et : Nat → Int} {b : Bool} {t s rd : Int} {h n g : Nat → Int} (hQ : QQ m r σ τ V E d p L W dl pl et b t s rd h n g) (hmr : m + 12 < r) (ho : OF τ τ1) : QQ m r σ τ1 V E d p L W dl pl et b t s rd h n g :=
  QQ_congr hQ hmr (fun _ _ _ => rfl) (fun _ _ _ => rfl) (fun i _ _ => ho.2.1 i (by omega) (by omega)) (ho.1 103 (by decide) (by decide) (by decide)) (ho.1 104 (by decide) (by decide) (by decide)) (ho.1 105 (by decide) (by decide) (by decide)) (ho.1 112 (by decide) (by decide) (by decide))
theorem will_end {V E : Nat} {d : MD} {σ τ : Wd} {p L W w : Int} {dl pl et : Nat → Int} {b : Bool} {t s rd : Int} {h n g : Nat → Int} (hQ : QQ 50 89 σ τ V E d p L W dl pl et b t s rd h n g) (w0 : 0 ≤ w ∧ w ≤ 6) : ∃ (x : Int32) (τ' : Wd), f_X6_will_91 (I w) σ = some (x, σ) ∧ f_X7_will_65 (I w) τ = (bd (f_X7_copies 114 179 112 179 τ') fun _ s => bd (f_X7_good x s) fun r s => some (r, s)) ∧ TW σ τ σ τ' := by
  obtain ⟨τ1, x, e1, e2, e3⟩ := tell_ok hQ w0.1 (by omega)
  refine ⟨x, τ1, ?_, ?_, TWo e3⟩
  · unfold f_X6_will_91
    rw [e1, bd_s]
  · unfold f_X7_will_65
    rw [e2, bd_s]
theorem will_l {V E : Nat} {p L W w : Int} {dl pl et : Nat → Int} (w0 : 0 ≤ w ∧ w ≤ 6) : ∀ (r i k k' : Nat) (z : Int) (d : MD) (σ τ : Wd) (t s rd : Int) (h n g : Nat → Int), z = (i : Int) → i + r = 400 → r < k → r < k' → QQ 50 89 σ τ V E d p L W dl pl et true t s rd h n g → t + r < 1000000 →
    ∃ (x : Int32) (σ' τ' : Wd), f_X6_will_49 k (I w) (I z) σ = some (x, σ') ∧ f_X7_will_40 k' (I w) (I z) τ = (bd (f_X7_copies 114 179 112 179 τ') fun _ s => bd (f_X7_good x s) fun r s => some (r, s)) ∧ TW σ τ σ' τ'
  | 0, i, k + 1, k' + 1, z, d, σ, τ, t, s, rd, h, n, g, hz, hi, _, _, hQ, ht => by
    obtain ⟨x, τ', e1, e2, e3⟩ := will_end hQ w0
    refine ⟨x, σ, τ', ?_, ?_, e3⟩
    · rw [f_X6_will_49]
      dsimp only
      rw [if_pos (show (400 : Int32) ≤ I z by show I 400 ≤ I z; rw [I_le (by unfold R; omega) (by unfold R; omega)]; omega), e1]
    · rw [f_X7_will_40]
      dsimp only
      rw [if_pos (show (400 : Int32) ≤ I z by show I 400 ≤ I z; rw [I_le (by unfold R; omega) (by unfold R; omega)]; omega), e2]
  | r + 1, i, k + 1, k' + 1, z, d, σ, τ, t, s, rd, h, n, g, hz, hi, hk, hk', hQ, ht => by
    obtain ⟨τ1, o, o1, o2, o3⟩ := over_ok hQ
    have nz : ¬ (400 : Int32) ≤ I z := by show ¬ I 400 ≤ I z; rw [I_le (by unfold R; omega) (by unfold R; omega)]; omega
    have hQ1 := QQ_of hQ (by decide) o3
    cases o with
    | true =>
      obtain ⟨x, τ', e1, e2, e3⟩ := will_end hQ1 w0
      refine ⟨x, σ, τ', ?_, ?_, TWt (TWo o3) e3⟩
      · rw [f_X6_will_49]
        dsimp only
        rw [if_neg nz, o1, bd_s, if_neg (show ¬ I (bn true) = (0 : Int32) by decide), e1]
      · rw [f_X7_will_40]
        dsimp only
        rw [if_neg nz, o2, bd_s, if_neg (show ¬ I (bn true) = (0 : Int32) by decide), e2]
    | false =>
      obtain ⟨σ2, τ2, d2, s2, rd2, h2, n2, g2, nb, a1, a2, a3, a4, a5, a6⟩ := tick_ok (by decide) (by decide) hQ1 (by omega)
      obtain ⟨x, σ', τ', e1, e2, e3⟩ := will_l w0 r (i + 1) k k' (z + 1) d2 σ2 τ2 (t + 1) s2 rd2 h2 n2 g2 (by omega) (by omega) (by omega) (by omega) a3 (by omega)
      refine ⟨x, σ', τ', ?_, ?_, TWt (TWo o3) (TWt (TWk a6) e3)⟩
      · rw [f_X6_will_49]
        dsimp only
        rw [if_neg nz, o1, bd_s, if_pos (show I (bn false) = (0 : Int32) from rfl), a1, bd_s, show I z + (1 : Int32) = I (z + 1) from I_add _ 1, e1]
      · rw [f_X7_will_40]
        dsimp only
        rw [if_neg nz, o2, bd_s, if_pos (show I (bn false) = (0 : Int32) from rfl), a2, bd_s, show I z + (1 : Int32) = I (z + 1) from I_add _ 1, e2]
theorem will_r0 {τ : Wd} {w a c : Int} (e : f_X7_in (I w) (I 0) (I 6) (wi τ 102 0 (I 0)) = some (I a, wi τ 102 0 (I 0))) (e2 : f_X7_refusesRun (I a) (wi τ 102 0 (I 0)) = some (I c, wi τ 102 0 (I 0))) (hc : 1 ≤ c ∧ c ≤ 5) : f_X7_will (I w) τ = some (I (-2147483648), refW τ (I c)) := by
  unfold f_X7_will refW
  simp (disch := omega) only [↓reduceIte, gd_t, bd_s, nm_W, nm_I, I_add, I_sub, I_mul, I_neg, I_le_t, I_le_f, I_lt_t, I_lt_f, I_eq_t, I_eq_f, I_inb', I_ix', Int.toNat_natCast, decide_true, decide_false, Bool.not_false, Bool.not_true, if_true, if_false, wi_eq, wi_eq', wi_ne, wi_row, wi_2, N0, N1, N2, N3, N4, N5, N6, N7, N8, N9, N10, N11, N12, N13, N14, N15, N16, N17, N18, N19, N20, N21, N22, N23, N24, N25, N26, N27, N28, N29, N30, N31, N32, N33, N34, N35, N36, N37, N38, N39, N40, N41, N42, N43, N45, N48, N57, N59, N88, N89, N97, N99, N120, N121, N122, N179, N200, N255, N300, N400, N880, N900, N999, N1019, N50000000, N100000000, N1000000000, N2147483647, N2147483648, e, e2, refL]
theorem will_r1 {τ τ1 : Wd} {w a : Int} (e : f_X7_in (I w) (I 0) (I 6) (wi τ 102 0 (I 0)) = some (I a, wi τ 102 0 (I 0))) (e2 : f_X7_refusesRun (I a) (wi τ 102 0 (I 0)) = some (I 0, wi τ 102 0 (I 0))) (e3 : f_X7_copies 112 179 114 179 (wi τ 102 0 (I 0)) = some (0, τ1)) : f_X7_will (I w) τ = f_X7_will_40 FU (I w) (I 0) τ1 := by
  unfold f_X7_will
  simp (disch := omega) only [↓reduceIte, gd_t, bd_s, nm_W, nm_I, I_add, I_sub, I_mul, I_neg, I_le_t, I_le_f, I_lt_t, I_lt_f, I_eq_t, I_eq_f, I_inb', I_ix', Int.toNat_natCast, decide_true, decide_false, Bool.not_false, Bool.not_true, if_true, if_false, wi_eq, wi_eq', wi_ne, wi_row, wi_2, N0, N1, N2, N3, N4, N5, N6, N7, N8, N9, N10, N11, N12, N13, N14, N15, N16, N17, N18, N19, N20, N21, N22, N23, N24, N25, N26, N27, N28, N29, N30, N31, N32, N33, N34, N35, N36, N37, N38, N39, N40, N41, N42, N43, N45, N48, N57, N59, N88, N89, N97, N99, N120, N121, N122, N179, N200, N255, N300, N400, N880, N900, N999, N1019, N50000000, N100000000, N1000000000, N2147483647, N2147483648, e, e2, e3]
set_option maxHeartbeats 1000000 in
theorem m_will (x : Int32) : MT (f_X6_will x) (f_X7_will x) := by
  intro σ τ B ⟨m, V, E, pres, kp, d, p, L, W, dl, pl, et, b, t, s, rd, h, n, g, hG⟩ hB
  obtain ⟨w, rfl, hw⟩ := argI x
  obtain ⟨bm, m10, m63⟩ := bMm hG.1
  have m24 : m = 11 ∨ m = 24 := by have := hG.1; omega
  have hQ := hG.2.2.1.1
  have tB := hG.2.2.1.2
  have g21 : (wi τ 102 0 (I 0)).1 102 21 = I (bn pres) := by rw [wi_ne (by decide)]; exact hG.2.2.2.1.2.1
  have g36 : (wi τ 102 0 (I 0)).1 112 36 = I (bn b) := by rw [wi_row (by decide)]; exact hQ.2.2.1.1.2
  have c1 := cWithin (σ := σ) (lo := 0) (hi := 6) hw (by unfold R; omega) (by unfold R; omega)
  have c2 := rIn (σ := wi τ 102 0 (I 0)) (lo := 0) (hi := 6) hw (by unfold R; omega) (by unfold R; omega)
  have er := rRun (τ := wi τ 102 0 (I 0)) (a := bn (decide (0 ≤ w ∧ w ≤ 6))) g21 g36 (bn_bnd _)
  have cb := tc_b (pres := pres) (a := bn (decide (0 ≤ w ∧ w ≤ 6))) (n := 1) (s := bn b)
  obtain ⟨x, σ', τ', k1, k2, k3⟩ := act_ok (B' := B + 200) (a := bn (decide (0 ≤ w ∧ w ≤ 6))) (nn := 1) (ss := bn b) (low := I (-2147483648)) (K := fun σ4 => gd (bM (σ4.2.2 0 4)) (bd (f_X3_copyFrom 50 (σ4.2.2 0 4) σ4) fun _ σ6 => bd (f_X4_copyFrom 89 63 σ6) fun _ σ7 => (f_X6_will_49 FU (I w) (I 0) σ7))) (fr := f_X7_will (I w))
    hG (by omega) (bn_bnd _) (by omega) (bn_bnd _)
    (fun hc => will_r0 c2 er (by omega))
    (fun hp ha _ hs => by
      have y := bn_1 ha
      have bt : b = true := by
        cases e : b with
        | true => rfl
        | false => rw [e] at hs; cases hs
      subst bt
      rw [show tc pres (bn (decide (0 ≤ w ∧ w ≤ 6))) 1 (bn true) = 0 by rw [hp, decide_eq_true y]; decide] at er
      have hm : (wi σ 0 12 (I 0)).2.2 0 4 = m := hG.2.1
      obtain ⟨σ1, a1, a2, a3, a4, a5, a6, a7⟩ := cCopyM (b := 50) (m := m) (σ := wi σ 0 12 (I 0)) (by omega)
      obtain ⟨σ2, b1, b2, b3, b4, b5, b6, b7⟩ := cCopyR (b := 89) (r := 63) (σ := σ1) (x := true) (by omega) (by rw [a6 63 (by omega), wi_row (by decide)]; exact hQ.2.2.1.1.1)
      obtain ⟨τ1, d1, d2, d3, d4⟩ := rCopy (a := 112) (b := 114) (τ := wi τ 102 0 (I 0)) (by decide)
      have so : ∀ k, k ≠ 0 → (wi σ 0 12 (I 0)).1 k = σ.1 k := fun k hk => wi_row hk
      have s50 : ∀ k, 50 ≤ k → k ≤ 62 → σ2.1 k = σ1.1 k := fun k g1 g2 => b6 k (by omega)
      have sr : ∀ k, 63 ≤ k → k ≤ 75 → σ1.1 k = σ.1 k := fun k g1 g2 => by rw [a6 k (by omega), so k (by omega)]
      have t1r : ∀ k, k ≠ 102 → k ≠ 114 → τ1.1 k = τ.1 k := fun k g1 g2 => by rw [d3 k g2, wi_row g1]
      have t12 : ∀ i, i ≠ 0 → τ1.1 102 i = τ.1 102 i := fun i g1 => by rw [d3 102 (by decide), wi_ne g1]
      have QK : QQ 50 89 σ2 τ1 V E d p L W dl pl et true t s rd h n g := QQ_move hQ
        (fun i hi => by rw [s50 50 (by omega) (by omega), a2 i hi, so m (by omega)]) (fun j g1 g2 i hi => by rw [s50 (50 + j) (by omega) (by omega), a3 j g1 g2 i hi, so (m + j) (by omega)]) (fun j g1 g2 i hi => by rw [s50 (50 + j) (by omega) (by omega), a4 j g1 g2 i hi, so (m + j) (by omega)]) (fun j g1 g2 i hi => by rw [s50 (50 + j) (by omega) (by omega), a5 j g1 g2 i hi, so (m + j) (by omega)])
        (fun i hi => by rw [b2 i hi, sr 63 (by omega) (by omega)]) (fun j g1 g2 i hi => by rw [b3 j g1 g2 i hi, sr (63 + j) (by omega) (by omega)]) (by rw [b4, sr (63 + 9) (by omega) (by omega)]) (fun j g1 g2 i hi => by rw [b5 j g1 g2 i hi, sr (63 + j) (by omega) (by omega)])
        (fun i g1 g2 => t12 i (by omega)) (t1r 103 (by decide) (by decide)) (t1r 104 (by decide) (by decide)) (t1r 105 (by decide) (by decide)) (fun i hi => by rw [t1r 112 (by decide) (by decide)])
      obtain ⟨x, σ3, τ3, e1, e2, ⟨f1, f2⟩, ⟨f3, f4, f5⟩⟩ := will_l y 400 0 FU FU 0 d σ2 τ1 t s rd h n g rfl (by omega) (by show _ < 6000; omega) (by show _ < 6000; omega) QK (by omega)
      obtain ⟨τ4, h1, h2, h3, h4⟩ := rCopy (a := 114) (b := 112) (τ := τ3) (by decide)
      obtain ⟨τ', hτ'⟩ : ∃ x, x = wi (wi τ4 102 1 (I 0)) 102 2 (I (-1)) := ⟨_, rfl⟩
      have fc : ∀ k, k ≠ 0 → k < 4 ∨ 9 < k → k < 50 ∨ 62 < k → k < 89 ∨ 101 < k → σ3.1 k = σ.1 k := fun k g0 g1 g2 g3 => by rw [f1 k g1 g2 g3, b6 k (by omega), a6 k (by omega), so k g0]
      have f0 : ∀ i, σ3.1 0 i = (wi σ 0 12 (I 0)).1 0 i := fun i => by rw [f1 0 (by decide) (by decide) (by decide), b6 0 (by omega), a6 0 (by omega)]
      have fk : ∀ k, k ≠ 102 → k ≠ 112 → k ≠ 114 → k ≠ 116 → k ≠ 117 → τ'.1 k = τ.1 k := fun k g1 g2 g3 g4 g5 => by rw [hτ', wi_row g1, wi_row g1, h3 k g2, f3 k g1 g2 g4 g5, t1r k g1 g3]
      have fi : ∀ i, 3 ≤ i → i ≠ 37 → i ≠ 38 → τ'.1 102 i = τ.1 102 i := fun i g1 g2 g3 => by rw [hτ', wi_ne (by omega), wi_ne (by omega), h3 102 (by decide), f4 i g2 g3, t12 i (by omega)]
      have fx : ∀ i, i < 179 → τ'.1 112 i = τ.1 112 i := fun i hi => by rw [hτ', wi_row (by decide), wi_row (by decide), h2 i hi, f3 114 (by decide) (by decide) (by decide) (by decide), d2 i hi, wi_row (by decide)]
      have QQ' : QQ m 63 σ3 τ' V E d p L W dl pl et true t s rd h n g := QQ_move hQ
        (fun i hi => by rw [fc m (by omega) (by omega) (by omega) (by omega)]) (fun j g1 g2 i hi => by rw [fc (m + j) (by omega) (by omega) (by omega) (by omega)]) (fun j g1 g2 i hi => by rw [fc (m + j) (by omega) (by omega) (by omega) (by omega)]) (fun j g1 g2 i hi => by rw [fc (m + j) (by omega) (by omega) (by omega) (by omega)])
        (fun i hi => by rw [fc 63 (by omega) (by omega) (by omega) (by omega)]) (fun j g1 g2 i hi => by rw [fc (63 + j) (by omega) (by omega) (by omega) (by omega)]) (by rw [fc (63 + 9) (by omega) (by omega) (by omega) (by omega)]) (fun j g1 g2 i hi => by rw [fc (63 + j) (by omega) (by omega) (by omega) (by omega)])
        (fun i g1 g2 => fi i (by omega) (by omega) (by omega)) (fk 103 (by decide) (by decide) (by decide) (by decide) (by decide)) (fk 104 (by decide) (by decide) (by decide) (by decide) (by decide)) (fk 105 (by decide) (by decide) (by decide) (by decide) (by decide)) fx
      refine ⟨x, σ3, τ', ?_, ?_, ⟨m, V, E, pres, kp, d, p, L, W, dl, pl, et, true, t, s, rd, h, n, g, GA_act2 hG hp (by omega) QQ' (by omega) (fun k hk => fc k (by omega) (by omega) (by omega) (by omega)) (fun i hi => by rw [f0 i, wi_ne hi]) (by rw [f2, b7, a7, wi_2]) (fun k g1 g2 g3 g4 => fk k (by omega) g3 g4 (by omega) (by omega)) (fun i g1 g2 => fi i g1 (by omega) (by omega)) (by rw [f0 12, wi_eq]) (by rw [hτ', wi_ne (by decide), wi_eq]) (by rw [hτ', wi_eq])⟩, ⟨fun k hk => by rw [fc k (by omega) (by omega) (by omega) (by omega), wi_row (by omega)], by rw [f2, b7, a7]⟩, ⟨fun k hk => fk k (by omega) (by omega) (by omega) (by omega) (by omega), by rw [hτ', wi_2, wi_2, h4, f5, d4, wi_2]⟩⟩
      · show gd (bM ((wi σ 0 12 (I 0)).2.2 0 4)) (bd (f_X3_copyFrom 50 ((wi σ 0 12 (I 0)).2.2 0 4) (wi σ 0 12 (I 0))) fun _ σ6 => bd (f_X4_copyFrom 89 63 σ6) fun _ σ7 => (f_X6_will_49 FU (I w) (I 0) σ7)) = _
        rw [hm, bm, gd_t, a1, bd_s, b1, bd_s, e1]
      · rw [will_r1 c2 er d1, e2, h1, bd_s, goodR, bd_s, hτ'])
  refine ⟨x, σ', τ', ?_, k2, k3⟩
  unfold f_X6_will
  rw [show (0 : Int32) = I 0 from rfl, show (6 : Int32) = I 6 from rfl, c1, bd_s, hQ.2.2.1.1.1]
  exact k1
end
section
/-! PURE: the beginning; a call of the law -/
theorem GG_mix {σ τ σ' τ' : Wd} {B : Int} (hG : GG σ τ B) (c : ∀ k, k < 102 → σ'.1 k = σ.1 k) (c2 : σ'.2.2 = σ.2.2) (e : ∀ k, 102 ≤ k → τ'.1 k = τ.1 k) : GG σ' τ' B := by
  obtain ⟨m, V, E, pres, kp, d, p, L, W, dl, pl, et, b, t, s, rd, h, n, g, hG⟩ := hG
  obtain ⟨g1, g2, ⟨g3, g4⟩, ⟨g5, g6, g7⟩, ⟨g8, g9, g10⟩, ⟨⟨t1, t2, t3⟩, t4⟩, ⟨tp, p1, p2, p3, p4⟩⟩ := hG
  have m50 : m = 11 ∨ m = 24 := by omega
  refine ⟨m, V, E, pres, kp, d, p, L, W, dl, pl, et, b, t, s, rd, h, n, g, by rw [c2]; exact g1, by rw [c2]; exact g2, ⟨QQ_congr g3 (by omega) (fun k _ _ => c k (by omega)) (fun k _ _ => c k (by omega)) (fun i _ _ => by rw [e 102 (by decide)]) (e 103 (by decide)) (e 104 (by decide)) (e 105 (by decide)) (e 112 (by decide)), g4⟩, ⟨by rw [c 0 (by decide)]; exact g5, by rw [e 102 (by decide)]; exact g6, g7⟩,
    ⟨by rw [c 0 (by decide)]; exact g8, by rw [e 102 (by decide)]; exact g9, fun q => ⟨(g10 q).1, KK_congr (g10 q).2 (Int.le_refl _) (fun k _ _ => c k (by omega)) (fun k _ _ => c k (by omega)) (fun i _ _ => by rw [e 102 (by decide)]) (e 103 (by decide)) (e 104 (by decide)) (e 105 (by decide)) (e 113 (by decide))⟩⟩,
    ⟨⟨by rw [c 0 (by decide), e 102 (by decide)]; exact t1, fun q => ?_, fun q => ?_⟩, by rw [c 0 (by decide), e 102 (by decide)]; exact t4⟩, ⟨tp, p1, by rw [c 1 (by decide)]; exact p2, by rw [e 102 (by decide)]; exact p3, fun i hi => by rw [c 2 (by decide), e 115 (by decide)]; exact p4 i hi⟩⟩
  · rw [c 0 (by decide)] at q
    rw [e 102 (by decide), c 1 (by decide)]
    exact t2 q
  · rw [c 0 (by decide)] at q
    rw [e 102 (by decide)]
    exact t3 q
theorem GG_B {σ τ : Wd} {B B' : Int} (hG : GG σ τ B) (h : B ≤ B') : GG σ τ B' := by
  obtain ⟨m, V, E, pres, kp, d, p, L, W, dl, pl, et, b, t, s, rd, h, n, g, hG⟩ := hG
  exact ⟨m, V, E, pres, kp, d, p, L, W, dl, pl, et, b, t, s, rd, h, n, g, GA_B hG (by omega)⟩
/-- a call of the law: the class' method, then the reference's, over one state -/
theorem stM {fc fr : Wd → Option (Int32 × Wd)} (h : MT fc fr) {σ : Wd} {B : Int} (hG : GG σ σ B) (hB : B ≤ 200000) : ∃ (x : Int32) (σ1 σ3 : Wd), fc σ = some (x, σ1) ∧ fr σ1 = some (x, σ3) ∧ GG σ3 σ3 (B + 200) := by
  obtain ⟨x, s1, t1, a1, -, -, c1, -⟩ := h σ σ B hG hB
  obtain ⟨y, s2, t2, b1, b2, b3, -, r2⟩ := h σ s1 B (GG_mix hG (fun _ _ => rfl) rfl c1.1) hB
  rw [a1] at b1
  obtain ⟨q1, q2⟩ := Prod.mk.inj (Option.some.inj b1)
  subst q1 q2
  exact ⟨x, s1, t2, a1, b2, GG_mix b3 r2.1 r2.2 (fun _ _ => rfl)⟩
theorem stL {fc fr : Wd → Option (Int32 × Wd)} (h : ML fc fr) {σ : Wd} {B : Int} (hG : GG σ σ B) (hB : B ≤ 200000) : ∃ (x y : Int32) (σ1 σ3 : Wd), fc σ = some (x, σ1) ∧ fr σ1 = some (y, σ3) ∧ GG σ3 σ3 (B + 200) := by
  obtain ⟨x, x', s1, t1, a1, -, -, c1, -⟩ := h σ σ B hG hB
  obtain ⟨y, y', s2, t2, b1, b2, b3, -, r2⟩ := h σ s1 B (GG_mix hG (fun _ _ => rfl) rfl c1.1) hB
  rw [a1] at b1
  obtain ⟨q1, q2⟩ := Prod.mk.inj (Option.some.inj b1)
  subst q1 q2
  exact ⟨x, y', s1, t2, a1, b2, GG_mix b3 r2.1 r2.2 (fun _ _ => rfl)⟩
/-- dry of the law: r2 tells whether it threw, 120 what it answered -/
theorem stD {a : Int32} {σ : Wd} {B : Int} (hG : GG σ σ B) : ∃ (r y : Int32) (σ1 σ3 : Wd), f_L_dry a σ = some (r, σ1) ∧ f_X7_dry a σ1 = some (y, σ3) ∧ GG σ3 σ3 (B + 200) ∧ ((r = 1 ∧ σ3.1 102 0 = 1) ∨ (r = 0 ∧ σ3.1 102 0 = 0 ∧ σ3.2.1 120 0 = y.toInt64)) := by
  obtain ⟨x, -, -, a1, -⟩ := m_dry a σ σ B hG
  by_cases c : x = (-1 : Int32)
  · obtain ⟨x', y, t2, b1, b2, b3, r2, -, hc⟩ := m_dry a σ σ B hG
    rw [a1] at b1
    obtain ⟨q1, -⟩ := Prod.mk.inj (Option.some.inj b1)
    subst q1
    refine ⟨1, y, σ, t2, ?_, b2, GG_mix b3 r2.1 r2.2 (fun _ _ => rfl), Or.inl ⟨rfl, ?_⟩⟩
    · unfold f_L_dry
      rw [a1, bd_s, if_pos c]
    · rcases hc with ⟨-, q⟩ | ⟨q, -⟩
      · exact q
      · exact absurd c q
  · obtain ⟨x', y, t2, b1, b2, b3, r2, s2, hc⟩ := m_dry a (wl σ 120 0 x.toInt64) (wl σ 120 0 x.toInt64) B (GG_mix hG (fun _ _ => rfl) rfl (fun _ _ => rfl))
    obtain ⟨z, z', t3, e1, e2, e3, -, -, ec⟩ := m_dry a σ (wl σ 120 0 x.toInt64) B (GG_mix hG (fun _ _ => rfl) rfl (fun _ _ => rfl))
    rw [a1] at e1
    obtain ⟨q1, -⟩ := Prod.mk.inj (Option.some.inj e1)
    subst q1
    rw [b2] at e2
    obtain ⟨q2, q3⟩ := Prod.mk.inj (Option.some.inj e2)
    subst q2 q3
    refine ⟨0, y, wl σ 120 0 x.toInt64, t2, ?_, b2, GG_mix b3 r2.1 r2.2 (fun _ _ => rfl), Or.inr ⟨rfl, ?_, ?_⟩⟩
    · unfold f_L_dry
      rw [a1, bd_s, if_neg c]
    · rcases ec with ⟨q, -⟩ | ⟨-, q, -⟩
      · exact absurd q c
      · exact q
    · rcases ec with ⟨q, -⟩ | ⟨-, -, q⟩
      · exact absurd q c
      · rw [s2, q, wl_eq]
theorem GG_0 : GG σ0 σ0 0 := by
  refine ⟨24, 0, 0, false, false, ((fun _ => 0, fun _ => 0, fun _ => 0, fun _ => 0), fun _ => 0, fun _ => 0, fun _ => 0), 0, 0, 0, fun _ => 0, fun _ => 0, fun _ => 0, false, 0, 0, 0, fun _ => 0, fun _ => 0, fun _ => 0, Or.inr ⟨rfl, rfl⟩, rfl, ⟨⟨⟨⟨by decide, fun v hv => absurd hv (by omega)⟩, ⟨rfl, fun v hv => absurd hv (by omega)⟩, ⟨rfl, fun v hv => absurd hv (by omega)⟩, ⟨rfl, rfl, by decide, by decide⟩, ⟨rfl, rfl, by decide, by decide, fun q => absurd q (by decide)⟩, ⟨rfl, rfl, by decide, by decide⟩, fun v hv => absurd hv (by omega), fun v hv => absurd hv (by omega)⟩, ⟨by decide, rfl, rfl, fun v hv => absurd hv (by omega), fun v hv => absurd hv (by omega)⟩, ⟨⟨rfl, rfl⟩, ⟨rfl, rfl, by decide, by decide⟩, ⟨rfl, rfl, by decide, by decide⟩, rfl, rfl, rfl, rfl⟩, ⟨0, rfl, by decide, fun v hv => absurd hv (by omega), fun v _ hv => absurd hv (by omega)⟩, fun v hv => absurd hv (by omega), ⟨0, fun i => i, by decide, rfl, rfl, fun v hv => absurd hv (by omega), fun v _ hv => absurd hv (by omega)⟩, ⟨fun v hv => absurd hv (by omega), by decide⟩, ⟨rfl, by decide, by decide⟩, fun _ => rfl, fun _ => ⟨fun v hv => absurd hv (by omega), fun q => by cases q⟩⟩, by decide⟩, ⟨rfl, rfl, fun _ => ⟨rfl, rfl⟩⟩, ⟨rfl, rfl, fun q => by cases q⟩, ⟨⟨rfl, fun q => absurd q (by decide), fun _ => rfl⟩, rfl⟩, ⟨0, by decide, rfl, rfl, fun v hv => absurd hv (by omega)⟩⟩
end
