/-! PURE: how a step of a function is computed: numerals as I, comparisons by whole numbers -/
theorem N0 : (0 : Int32) = I 0 := rfl
theorem N1 : (1 : Int32) = I 1 := rfl
theorem N2 : (2 : Int32) = I 2 := rfl
theorem N3 : (3 : Int32) = I 3 := rfl
theorem N4 : (4 : Int32) = I 4 := rfl
theorem N5 : (5 : Int32) = I 5 := rfl
theorem N6 : (6 : Int32) = I 6 := rfl
theorem N7 : (7 : Int32) = I 7 := rfl
theorem N8 : (8 : Int32) = I 8 := rfl
theorem N9 : (9 : Int32) = I 9 := rfl
theorem N10 : (10 : Int32) = I 10 := rfl
theorem N11 : (11 : Int32) = I 11 := rfl
theorem N12 : (12 : Int32) = I 12 := rfl
theorem N13 : (13 : Int32) = I 13 := rfl
theorem N14 : (14 : Int32) = I 14 := rfl
theorem N15 : (15 : Int32) = I 15 := rfl
theorem N16 : (16 : Int32) = I 16 := rfl
theorem N17 : (17 : Int32) = I 17 := rfl
theorem N18 : (18 : Int32) = I 18 := rfl
theorem N19 : (19 : Int32) = I 19 := rfl
theorem N20 : (20 : Int32) = I 20 := rfl
theorem N21 : (21 : Int32) = I 21 := rfl
theorem N22 : (22 : Int32) = I 22 := rfl
theorem N23 : (23 : Int32) = I 23 := rfl
theorem N24 : (24 : Int32) = I 24 := rfl
theorem N25 : (25 : Int32) = I 25 := rfl
theorem N26 : (26 : Int32) = I 26 := rfl
theorem N27 : (27 : Int32) = I 27 := rfl
theorem N28 : (28 : Int32) = I 28 := rfl
theorem N29 : (29 : Int32) = I 29 := rfl
theorem N30 : (30 : Int32) = I 30 := rfl
theorem N31 : (31 : Int32) = I 31 := rfl
theorem N32 : (32 : Int32) = I 32 := rfl
theorem N33 : (33 : Int32) = I 33 := rfl
theorem N34 : (34 : Int32) = I 34 := rfl
theorem N35 : (35 : Int32) = I 35 := rfl
theorem N36 : (36 : Int32) = I 36 := rfl
theorem N37 : (37 : Int32) = I 37 := rfl
theorem N38 : (38 : Int32) = I 38 := rfl
theorem N39 : (39 : Int32) = I 39 := rfl
theorem N40 : (40 : Int32) = I 40 := rfl
theorem N41 : (41 : Int32) = I 41 := rfl
theorem N42 : (42 : Int32) = I 42 := rfl
theorem N43 : (43 : Int32) = I 43 := rfl
theorem N45 : (45 : Int32) = I 45 := rfl
theorem N48 : (48 : Int32) = I 48 := rfl
theorem N57 : (57 : Int32) = I 57 := rfl
theorem N59 : (59 : Int32) = I 59 := rfl
theorem N88 : (88 : Int32) = I 88 := rfl
theorem N89 : (89 : Int32) = I 89 := rfl
theorem N97 : (97 : Int32) = I 97 := rfl
theorem N99 : (99 : Int32) = I 99 := rfl
theorem N120 : (120 : Int32) = I 120 := rfl
theorem N121 : (121 : Int32) = I 121 := rfl
theorem N122 : (122 : Int32) = I 122 := rfl
theorem N179 : (179 : Int32) = I 179 := rfl
theorem N200 : (200 : Int32) = I 200 := rfl
theorem N255 : (255 : Int32) = I 255 := rfl
theorem N300 : (300 : Int32) = I 300 := rfl
theorem N400 : (400 : Int32) = I 400 := rfl
theorem N880 : (880 : Int32) = I 880 := rfl
theorem N900 : (900 : Int32) = I 900 := rfl
theorem N999 : (999 : Int32) = I 999 := rfl
theorem N1019 : (1019 : Int32) = I 1019 := rfl
theorem N50000000 : (50000000 : Int32) = I 50000000 := rfl
theorem N100000000 : (100000000 : Int32) = I 100000000 := rfl
theorem N1000000000 : (1000000000 : Int32) = I 1000000000 := rfl
theorem N2147483647 : (2147483647 : Int32) = I 2147483647 := rfl
theorem N2147483648 : (2147483648 : Int32) = I 2147483648 := rfl
theorem gd_t (e : Option (Int32 × Wd)) : gd true e = e := rfl
theorem nm_W (σ : Wd) (f : Wd → Option (Int32 × Wd)) : nmW σ f = f σ := rfl
theorem nm_I (x : Int32) (f : Int32 → Option (Int32 × Wd)) : nmI x f = f x := rfl
theorem I_le_t {a b : Int} (h1 : -2147483648 ≤ a) (h2 : a ≤ b) (h3 : b < 2147483648) : (I a ≤ I b) = True := by
  rw [I_le (by unfold R; omega) (by unfold R; omega)]
  exact eq_true h2
theorem I_le_f {a b : Int} (h1 : -2147483648 ≤ b) (h2 : b < a) (h3 : a < 2147483648) : (I a ≤ I b) = False := by
  rw [I_le (by unfold R; omega) (by unfold R; omega)]
  exact eq_false (by omega)
theorem I_lt_t {a b : Int} (h1 : -2147483648 ≤ a) (h2 : a < b) (h3 : b < 2147483648) : (I a < I b) = True := by
  rw [I_lt (by unfold R; omega) (by unfold R; omega)]
  exact eq_true h2
theorem I_lt_f {a b : Int} (h1 : -2147483648 ≤ b) (h2 : b ≤ a) (h3 : a < 2147483648) : (I a < I b) = False := by
  rw [I_lt (by unfold R; omega) (by unfold R; omega)]
  exact eq_false (by omega)
theorem I_eq_t {a b : Int} (h : a = b) : (I a = I b) = True := eq_true (by rw [h])
theorem I_eq_f {a b : Int} (h1 : -2147483648 ≤ a) (h2 : a < 2147483648) (h3 : -2147483648 ≤ b) (h4 : b < 2147483648) (h : ¬ a = b) : (I a = I b) = False := by
  rw [I_eq (by unfold R; omega) (by unfold R; omega)]
  exact eq_false h
theorem I_inb' {z : Int} {n : Nat} (h : 0 ≤ z) (h2 : z < (n : Int)) (hn : n < 2147483648) : inb (I z) n = true := I_inb h h2 hn
theorem I_ix' {z : Int} (h : 0 ≤ z) (h2 : z < 2147483648) : ix (I z) = z.toNat := I_ix h h2
theorem wi_eq' {σ : Wd} {k j i : Nat} {x : Int32} (h : i = j) : (wi σ k j x).1 k i = x := by rw [h]; exact wi_eq
/-- the most units that a row has, as the class looks for them -/
theorem mostU {σ : Wd} {q0 l0 : Nat} {f : Nat → Option Int} (h1 : 120 < l0) (h2 : l0 < 1000) : ∀ (u n : Nat) (z : Int), z = u → u < n → u ≤ 120 →
    (∀ w, w ≤ u → σ.1 q0 w = I (enc 1000000000 (f w)) ∧ OB 900000000 (f w)) → f_X1_mostUnits_2 q0 l0 n (I z) σ = some (I (bu f u : Int), σ)
  | 0, n + 1, z, hz, hn, hu, h => by
    rw [f_X1_mostUnits_2]
    simp (disch := omega) only [gd_t, bd_s, nm_W, nm_I, I_add, I_sub, I_mul, I_neg, I_le_t, I_le_f, I_lt_t, I_lt_f, I_eq_t, I_eq_f, I_inb', I_ix', Int.toNat_natCast, decide_true, decide_false, Bool.not_false, Bool.not_true, if_true, if_false, wi_eq, wi_eq', wi_ne, wi_row, wi_2, N0, N1, N2, N3, N4, N5, N6, N7, N8, N9, N10, N11, N12, N13, N14, N15, N16, N17, N18, N19, N20, N21, N22, N23, N24, N25, N26, N27, N28, N29, N30, N31, N32, N33, N34, N35, N36, N37, N38, N39, N40, N41, N42, N43, N45, N48, N57, N59, N88, N89, N97, N99, N120, N121, N122, N179, N200, N255, N300, N400, N880, N900, N999, N1019, N50000000, N100000000, N1000000000, N2147483647, N2147483648]
    rfl
  | u + 1, n + 1, z, hz, hn, hu, h => by
    have tz : z.toNat = u + 1 := by omega
    obtain ⟨e1, e2⟩ := h (u + 1) (Nat.le_refl _)
    rw [f_X1_mostUnits_2]
    cases hf : f (u + 1) with
    | none =>
      rw [hf] at e1
      simp (disch := omega) only [gd_t, bd_s, nm_W, nm_I, I_add, I_sub, I_mul, I_neg, I_le_t, I_le_f, I_lt_t, I_lt_f, I_eq_t, I_eq_f, I_inb', I_ix', Int.toNat_natCast, decide_true, decide_false, Bool.not_false, Bool.not_true, if_true, if_false, wi_eq, wi_eq', wi_ne, wi_row, wi_2, N0, N1, N2, N3, N4, N5, N6, N7, N8, N9, N10, N11, N12, N13, N14, N15, N16, N17, N18, N19, N20, N21, N22, N23, N24, N25, N26, N27, N28, N29, N30, N31, N32, N33, N34, N35, N36, N37, N38, N39, N40, N41, N42, N43, N45, N48, N57, N59, N88, N89, N97, N99, N120, N121, N122, N179, N200, N255, N300, N400, N880, N900, N999, N1019, N50000000, N100000000, N1000000000, N2147483647, N2147483648, tz, e1, enc]
      rw [bu, if_pos hf]
      exact mostU h1 h2 u n _ (by omega) (by omega) (by omega) (fun w hw => h w (by omega))
    | some y =>
      have yb := e2 y hf
      rw [hf] at e1
      simp (disch := omega) only [gd_t, bd_s, nm_W, nm_I, I_add, I_sub, I_mul, I_neg, I_le_t, I_le_f, I_lt_t, I_lt_f, I_eq_t, I_eq_f, I_inb', I_ix', Int.toNat_natCast, decide_true, decide_false, Bool.not_false, Bool.not_true, if_true, if_false, wi_eq, wi_eq', wi_ne, wi_row, wi_2, N0, N1, N2, N3, N4, N5, N6, N7, N8, N9, N10, N11, N12, N13, N14, N15, N16, N17, N18, N19, N20, N21, N22, N23, N24, N25, N26, N27, N28, N29, N30, N31, N32, N33, N34, N35, N36, N37, N38, N39, N40, N41, N42, N43, N45, N48, N57, N59, N88, N89, N97, N99, N120, N121, N122, N179, N200, N255, N300, N400, N880, N900, N999, N1019, N50000000, N100000000, N1000000000, N2147483647, N2147483648, tz, e1, enc]
      rw [bu, if_neg (by rw [hf]; exact fun h => by cases h), hz]
