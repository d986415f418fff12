section
/-! PURE: the whole state of class (σ) and reference (τ) -/
def KK (σ τ : Wd) (V E : Nat) (p L : Int) (dl et : Nat → Int) (B : Int) : Prop := ∃ (d : MD) (W : Int) (pl : Nat → Int) (b : Bool) (t s rd : Int) (h n g : Nat → Int), QQ 37 76 σ (wc τ 112 (τ.1 113)) V E d p L W dl pl et b t s rd h n g ∧ t ≤ B
def TT (σ τ : Wd) : Prop := (τ.1 102 1 = σ.1 0 12 ∧ (σ.1 0 12 = I 4 → τ.1 102 2 = σ.1 1 2) ∧ (σ.1 0 12 ≠ I 4 → τ.1 102 2 = I (-1))) ∧ τ.1 102 33 = σ.1 0 13
def TP (σ τ : Wd) : Prop := ∃ tp : Nat, tp ≤ 900 ∧ σ.1 1 0 = I (tp : Int) ∧ τ.1 102 27 = I (tp : Int) ∧ ∀ i, i < tp → τ.1 115 i = σ.1 2 i ∧ -128 ≤ (σ.1 2 i).toInt ∧ (σ.1 2 i).toInt ≤ 127
def GA (m : Nat) (σ τ : Wd) (V E : Nat) (pres kp : Bool) (d : MD) (p L W : Int) (dl pl et : Nat → Int) (b : Bool) (t s rd : Int) (h n g : Nat → Int) (B : Int) : Prop :=
  ((m = 11 ∧ σ.2.2 0 3 = 24) ∨ (m = 24 ∧ σ.2.2 0 3 = 11)) ∧ σ.2.2 0 4 = m ∧ (QQ m 63 σ τ V E d p L W dl pl et b t s rd h n g ∧ t ≤ B)
  ∧ (σ.1 0 10 = I (bn pres) ∧ τ.1 102 21 = I (bn pres) ∧ (pres = false → V = 0 ∧ b = false)) ∧ (σ.1 0 11 = I (bn kp) ∧ τ.1 102 25 = I (bn kp) ∧ (kp = true → pres = true ∧ KK σ τ V E p L dl et B)) ∧ TT σ τ ∧ TP σ τ
def GG (σ τ : Wd) (B : Int) : Prop := ∃ (m V E : Nat) (pres kp : Bool) (d : MD) (p L W : Int) (dl pl et : Nat → Int) (b : Bool) (t s rd : Int) (h n g : Nat → Int), GA m σ τ V E pres kp d p L W dl pl et b t s rd h n g B
theorem KK_congr {σ τ σ' τ' : Wd} {V E : Nat} {p L : Int} {dl et : Nat → Int} {B B' : Int} (h : KK σ τ V E p L dl et B) (hB : B ≤ B') (c : ∀ k, 37 ≤ k → k ≤ 49 → σ'.1 k = σ.1 k) (c2 : ∀ k, 76 ≤ k → k ≤ 88 → σ'.1 k = σ.1 k) (e2 : ∀ i, 12 ≤ i → i ≤ 15 → τ'.1 102 i = τ.1 102 i) (e3 : τ'.1 103 = τ.1 103) (e4 : τ'.1 104 = τ.1 104) (e5 : τ'.1 105 = τ.1 105) (e6 : τ'.1 113 = τ.1 113) : KK σ' τ' V E p L dl et B' := by
  obtain ⟨d, W, pl, b, t, s, rd, h, n, g, q, tb⟩ := h
  refine ⟨d, W, pl, b, t, s, rd, h, n, g, QQ_congr q (by decide) (fun k g1 g2 => c k g1 (by omega)) (fun k g1 g2 => c2 k g1 (by omega)) (fun i g1 g2 => ?_) ?_ ?_ ?_ ?_, by omega⟩
  · rw [wc_row (by decide), wc_row (by decide)]; exact e2 i g1 g2
  · rw [wc_row (by decide), wc_row (by decide)]; exact e3
  · rw [wc_row (by decide), wc_row (by decide)]; exact e4
  · rw [wc_row (by decide), wc_row (by decide)]; exact e5
  · rw [wc_eq, wc_eq]; exact e6
/-- a call that changes nothing but what was told last -/
theorem GA_q {m V E : Nat} {σ τ σ' τ' : Wd} {pres kp : Bool} {d : MD} {p L W : Int} {dl pl et : Nat → Int} {b : Bool} {t s rd : Int} {h n g : Nat → Int} {B c : Int} (hG : GA m σ τ V E pres kp d p L W dl pl et b t s rd h n g B)
    (c1 : ∀ k, k ≠ 0 → k < 4 ∨ 10 < k → σ'.1 k = σ.1 k) (c2 : ∀ i, i ≠ 12 → σ'.1 0 i = σ.1 0 i) (c3 : σ'.2 = σ.2) (e1 : ∀ k, k ≠ 102 → k < 116 ∨ 119 < k → τ'.1 k = τ.1 k) (e2 : ∀ i, 3 ≤ i → i < 37 ∨ 39 < i → τ'.1 102 i = τ.1 102 i)
    (t1 : σ'.1 0 12 = I c) (t2 : τ'.1 102 1 = I c) (t3 : τ'.1 102 2 = I (-1)) (t4 : 0 ≤ c ∧ c ≤ 5 ∧ c ≠ 4) : GA m σ' τ' V E pres kp d p L W dl pl et b t s rd h n g B := by
  obtain ⟨g1, g2, ⟨g3, g4⟩, ⟨g5, g6, g7⟩, ⟨g8, g9, g10⟩, ⟨g11, g12⟩, ⟨tp, p1, p2, p3, p4⟩⟩ := hG
  have m50 : m = 11 ∨ m = 24 := by omega
  refine ⟨by rw [c3]; exact g1, by rw [c3]; exact g2, ⟨QQ_congr g3 (by omega) (fun k a1 a2 => c1 k (by omega) (by omega)) (fun k a1 a2 => c1 k (by omega) (by omega)) (fun i a1 a2 => e2 i (by omega) (by omega)) (e1 103 (by decide) (by decide)) (e1 104 (by decide) (by decide)) (e1 105 (by decide) (by decide)) (e1 112 (by decide) (by decide)), g4⟩, ⟨by rw [c2 10 (by decide)]; exact g5, by rw [e2 21 (by decide) (by decide)]; exact g6, g7⟩,
    ⟨by rw [c2 11 (by decide)]; exact g8, by rw [e2 25 (by decide) (by decide)]; exact g9, fun q => ⟨(g10 q).1, KK_congr (g10 q).2 (Int.le_refl _) (fun k a1 a2 => c1 k (by omega) (by omega)) (fun k a1 a2 => c1 k (by omega) (by omega)) (fun i a1 a2 => e2 i (by omega) (by omega)) (e1 103 (by decide) (by decide)) (e1 104 (by decide) (by decide)) (e1 105 (by decide) (by decide)) (e1 113 (by decide) (by decide))⟩⟩,
    ⟨⟨by rw [t1, t2], fun q => ?_, fun _ => t3⟩, by rw [c2 13 (by decide), e2 33 (by decide) (by decide)]; exact g12⟩, ⟨tp, p1, by rw [c1 1 (by decide) (by decide)]; exact p2, by rw [e2 27 (by decide) (by decide)]; exact p3, fun i hi => by rw [c1 2 (by decide) (by decide), e1 115 (by decide) (by decide)]; exact p4 i hi⟩⟩
  rw [t1, I_eq (by unfold R; omega) (by unfold R; omega)] at q
  omega
theorem GA_B {m V E : Nat} {σ τ : Wd} {pres kp : Bool} {d : MD} {p L W : Int} {dl pl et : Nat → Int} {b : Bool} {t s rd : Int} {h n g : Nat → Int} {B B' : Int} (hG : GA m σ τ V E pres kp d p L W dl pl et b t s rd h n g B) (hB : B ≤ B') : GA m σ τ V E pres kp d p L W dl pl et b t s rd h n g B' := by
  obtain ⟨g1, g2, ⟨g3, g4⟩, g5, ⟨g8, g9, g10⟩, g11⟩ := hG
  exact ⟨g1, g2, ⟨g3, by omega⟩, g5, ⟨g8, g9, fun q => ⟨(g10 q).1, KK_congr (g10 q).2 hB (fun _ _ _ => rfl) (fun _ _ _ => rfl) (fun _ _ _ => rfl) rfl rfl rfl rfl⟩⟩, g11⟩
/-! refusals -/
def tc (pres : Bool) (a n s : Int) : Int := if pres = false ∨ a = 0 then 1 else if n = 0 then 2 else if s = 0 then 5 else 0
theorem tc_b {pres : Bool} {a n s : Int} : 0 ≤ tc pres a n s ∧ tc pres a n s ≤ 5 ∧ tc pres a n s ≠ 4 := by
  unfold tc
  split
  · omega
  · split
    · omega
    · split <;> omega
theorem g48 {σ : Wd} {c : Int} (h : σ.1 0 12 = I c) (c0 : 0 ≤ c) (c1 : c ≤ 5) : f_X6_granted_48 σ = some (I (bn (decide (c = 0))), σ) := by
  by_cases q : c = 0
  · rw [decide_eq_true q, bn_t]
    unfold f_X6_granted_48
    simp (disch := omega) only [↓reduceIte, gd_t, bd_s, nm_W, nm_I, I_add, I_sub, I_mul, I_neg, I_le_t, I_le_f, I_lt_t, I_lt_f, I_eq_t, I_eq_f, I_inb', I_ix', Int.toNat_natCast, decide_true, decide_false, Bool.not_false, Bool.not_true, if_true, if_false, wi_eq, wi_eq', wi_ne, wi_row, wi_2, N0, N1, N2, N3, N4, N5, N6, N7, N8, N9, N10, N11, N12, N13, N14, N15, N16, N17, N18, N19, N20, N21, N22, N23, N24, N25, N26, N27, N28, N29, N30, N31, N32, N33, N34, N35, N36, N37, N38, N39, N40, N41, N42, N43, N45, N48, N57, N59, N88, N89, N97, N99, N120, N121, N122, N179, N200, N255, N300, N400, N880, N900, N999, N1019, N50000000, N100000000, N1000000000, N2147483647, N2147483648, h, f_X6_granted_60, isb_1]
  · rw [decide_eq_false q, bn_f]
    unfold f_X6_granted_48
    simp (disch := omega) only [↓reduceIte, gd_t, bd_s, nm_W, nm_I, I_add, I_sub, I_mul, I_neg, I_le_t, I_le_f, I_lt_t, I_lt_f, I_eq_t, I_eq_f, I_inb', I_ix', Int.toNat_natCast, decide_true, decide_false, Bool.not_false, Bool.not_true, if_true, if_false, wi_eq, wi_eq', wi_ne, wi_row, wi_2, N0, N1, N2, N3, N4, N5, N6, N7, N8, N9, N10, N11, N12, N13, N14, N15, N16, N17, N18, N19, N20, N21, N22, N23, N24, N25, N26, N27, N28, N29, N30, N31, N32, N33, N34, N35, N36, N37, N38, N39, N40, N41, N42, N43, N45, N48, N57, N59, N88, N89, N97, N99, N120, N121, N122, N179, N200, N255, N300, N400, N880, N900, N999, N1019, N50000000, N100000000, N1000000000, N2147483647, N2147483648, h, f_X6_granted_60, isb_0]
theorem cGrant {σ : Wd} {pres : Bool} {a n s : Int} (h : σ.1 0 10 = I (bn pres)) (ha : 0 ≤ a ∧ a ≤ 1) (hn : 0 ≤ n ∧ n ≤ 1) (hs : 0 ≤ s ∧ s ≤ 1) :
    f_X6_granted (I a) (I n) (I s) σ = some (I (bn (decide (tc pres a n s = 0))), wi σ 0 12 (I (tc pres a n s))) := by
  have tb := tc_b (pres := pres) (a := a) (n := n) (s := s)
  rw [← g48 (σ := wi σ 0 12 (I (tc pres a n s))) (c := tc pres a n s) wi_eq tb.1 tb.2.1]
  obtain ⟨x, hx⟩ : ∃ x, x = bn pres := ⟨_, rfl⟩
  have xb := bn_bnd pres
  rw [← hx] at h xb
  by_cases c1 : x = 0
  · have e : tc pres a n s = 1 := by
      unfold tc
      rw [if_pos (Or.inl (by cases pres with
        | false => rfl
        | true => rw [hx] at c1; cases c1))]
    rw [e]
    unfold f_X6_granted f_X6_granted_11
    simp (disch := omega) only [↓reduceIte, gd_t, bd_s, nm_W, nm_I, I_add, I_sub, I_mul, I_neg, I_le_t, I_le_f, I_lt_t, I_lt_f, I_eq_t, I_eq_f, I_inb', I_ix', Int.toNat_natCast, decide_true, decide_false, Bool.not_false, Bool.not_true, if_true, if_false, wi_eq, wi_eq', wi_ne, wi_row, wi_2, N0, N1, N2, N3, N4, N5, N6, N7, N8, N9, N10, N11, N12, N13, N14, N15, N16, N17, N18, N19, N20, N21, N22, N23, N24, N25, N26, N27, N28, N29, N30, N31, N32, N33, N34, N35, N36, N37, N38, N39, N40, N41, N42, N43, N45, N48, N57, N59, N88, N89, N97, N99, N120, N121, N122, N179, N200, N255, N300, N400, N880, N900, N999, N1019, N50000000, N100000000, N1000000000, N2147483647, N2147483648, h]
  · have pt : pres = true := by
      cases pres with
      | false => rw [hx] at c1; exact absurd rfl c1
      | true => rfl
    by_cases c2 : a = 0
    · have e : tc pres a n s = 1 := by unfold tc; rw [if_pos (Or.inr c2)]
      rw [e]
      unfold f_X6_granted f_X6_granted_11
      simp (disch := omega) only [↓reduceIte, gd_t, bd_s, nm_W, nm_I, I_add, I_sub, I_mul, I_neg, I_le_t, I_le_f, I_lt_t, I_lt_f, I_eq_t, I_eq_f, I_inb', I_ix', Int.toNat_natCast, decide_true, decide_false, Bool.not_false, Bool.not_true, if_true, if_false, wi_eq, wi_eq', wi_ne, wi_row, wi_2, N0, N1, N2, N3, N4, N5, N6, N7, N8, N9, N10, N11, N12, N13, N14, N15, N16, N17, N18, N19, N20, N21, N22, N23, N24, N25, N26, N27, N28, N29, N30, N31, N32, N33, N34, N35, N36, N37, N38, N39, N40, N41, N42, N43, N45, N48, N57, N59, N88, N89, N97, N99, N120, N121, N122, N179, N200, N255, N300, N400, N880, N900, N999, N1019, N50000000, N100000000, N1000000000, N2147483647, N2147483648, h]
    · have h1 : ¬ (pres = false ∨ a = 0) := fun q => by
        rcases q with q | q
        · rw [pt] at q; cases q
        · exact c2 q
      by_cases c3 : n = 0
      · have e : tc pres a n s = 2 := by unfold tc; rw [if_neg h1, if_pos c3]
        rw [e]
        unfold f_X6_granted
        simp (disch := omega) only [↓reduceIte, gd_t, bd_s, nm_W, nm_I, I_add, I_sub, I_mul, I_neg, I_le_t, I_le_f, I_lt_t, I_lt_f, I_eq_t, I_eq_f, I_inb', I_ix', Int.toNat_natCast, decide_true, decide_false, Bool.not_false, Bool.not_true, if_true, if_false, wi_eq, wi_eq', wi_ne, wi_row, wi_2, N0, N1, N2, N3, N4, N5, N6, N7, N8, N9, N10, N11, N12, N13, N14, N15, N16, N17, N18, N19, N20, N21, N22, N23, N24, N25, N26, N27, N28, N29, N30, N31, N32, N33, N34, N35, N36, N37, N38, N39, N40, N41, N42, N43, N45, N48, N57, N59, N88, N89, N97, N99, N120, N121, N122, N179, N200, N255, N300, N400, N880, N900, N999, N1019, N50000000, N100000000, N1000000000, N2147483647, N2147483648, h]
      · by_cases c4 : s = 0
        · have e : tc pres a n s = 5 := by unfold tc; rw [if_neg h1, if_neg c3, if_pos c4]
          rw [e]
          unfold f_X6_granted
          simp (disch := omega) only [↓reduceIte, gd_t, bd_s, nm_W, nm_I, I_add, I_sub, I_mul, I_neg, I_le_t, I_le_f, I_lt_t, I_lt_f, I_eq_t, I_eq_f, I_inb', I_ix', Int.toNat_natCast, decide_true, decide_false, Bool.not_false, Bool.not_true, if_true, if_false, wi_eq, wi_eq', wi_ne, wi_row, wi_2, N0, N1, N2, N3, N4, N5, N6, N7, N8, N9, N10, N11, N12, N13, N14, N15, N16, N17, N18, N19, N20, N21, N22, N23, N24, N25, N26, N27, N28, N29, N30, N31, N32, N33, N34, N35, N36, N37, N38, N39, N40, N41, N42, N43, N45, N48, N57, N59, N88, N89, N97, N99, N120, N121, N122, N179, N200, N255, N300, N400, N880, N900, N999, N1019, N50000000, N100000000, N1000000000, N2147483647, N2147483648, h]
        · have e : tc pres a n s = 0 := by unfold tc; rw [if_neg h1, if_neg c3, if_neg c4]
          rw [e]
          unfold f_X6_granted
          simp (disch := omega) only [↓reduceIte, gd_t, bd_s, nm_W, nm_I, I_add, I_sub, I_mul, I_neg, I_le_t, I_le_f, I_lt_t, I_lt_f, I_eq_t, I_eq_f, I_inb', I_ix', Int.toNat_natCast, decide_true, decide_false, Bool.not_false, Bool.not_true, if_true, if_false, wi_eq, wi_eq', wi_ne, wi_row, wi_2, N0, N1, N2, N3, N4, N5, N6, N7, N8, N9, N10, N11, N12, N13, N14, N15, N16, N17, N18, N19, N20, N21, N22, N23, N24, N25, N26, N27, N28, N29, N30, N31, N32, N33, N34, N35, N36, N37, N38, N39, N40, N41, N42, N43, N45, N48, N57, N59, N88, N89, N97, N99, N120, N121, N122, N179, N200, N255, N300, N400, N880, N900, N999, N1019, N50000000, N100000000, N1000000000, N2147483647, N2147483648, h]
theorem cWithin {σ : Wd} {z lo hi : Int} (hz : R z) (hl : R lo) (hh : R hi) : f_X6_within (I z) (I lo) (I hi) σ = some (I (bn (decide (lo ≤ z ∧ z ≤ hi))), σ) := by
  unfold R at hz hl hh
  by_cases c1 : z < lo
  · rw [decide_eq_false (by omega), bn_f]
    unfold f_X6_within
    simp (disch := omega) only [↓reduceIte, gd_t, bd_s, nm_W, nm_I, I_add, I_sub, I_mul, I_neg, I_le_t, I_le_f, I_lt_t, I_lt_f, I_eq_t, I_eq_f, I_inb', I_ix', Int.toNat_natCast, decide_true, decide_false, Bool.not_false, Bool.not_true, if_true, if_false, wi_eq, wi_eq', wi_ne, wi_row, wi_2, N0, N1, N2, N3, N4, N5, N6, N7, N8, N9, N10, N11, N12, N13, N14, N15, N16, N17, N18, N19, N20, N21, N22, N23, N24, N25, N26, N27, N28, N29, N30, N31, N32, N33, N34, N35, N36, N37, N38, N39, N40, N41, N42, N43, N45, N48, N57, N59, N88, N89, N97, N99, N120, N121, N122, N179, N200, N255, N300, N400, N880, N900, N999, N1019, N50000000, N100000000, N1000000000, N2147483647, N2147483648, f_X6_within_14, f_X6_within_15, isb_0]
  · by_cases c2 : hi < z
    · rw [decide_eq_false (by omega), bn_f]
      unfold f_X6_within
      simp (disch := omega) only [↓reduceIte, gd_t, bd_s, nm_W, nm_I, I_add, I_sub, I_mul, I_neg, I_le_t, I_le_f, I_lt_t, I_lt_f, I_eq_t, I_eq_f, I_inb', I_ix', Int.toNat_natCast, decide_true, decide_false, Bool.not_false, Bool.not_true, if_true, if_false, wi_eq, wi_eq', wi_ne, wi_row, wi_2, N0, N1, N2, N3, N4, N5, N6, N7, N8, N9, N10, N11, N12, N13, N14, N15, N16, N17, N18, N19, N20, N21, N22, N23, N24, N25, N26, N27, N28, N29, N30, N31, N32, N33, N34, N35, N36, N37, N38, N39, N40, N41, N42, N43, N45, N48, N57, N59, N88, N89, N97, N99, N120, N121, N122, N179, N200, N255, N300, N400, N880, N900, N999, N1019, N50000000, N100000000, N1000000000, N2147483647, N2147483648, f_X6_within_14, f_X6_within_15, isb_0]
    · rw [decide_eq_true ⟨by omega, by omega⟩, bn_t]
      unfold f_X6_within
      simp (disch := omega) only [↓reduceIte, gd_t, bd_s, nm_W, nm_I, I_add, I_sub, I_mul, I_neg, I_le_t, I_le_f, I_lt_t, I_lt_f, I_eq_t, I_eq_f, I_inb', I_ix', Int.toNat_natCast, decide_true, decide_false, Bool.not_false, Bool.not_true, if_true, if_false, wi_eq, wi_eq', wi_ne, wi_row, wi_2, N0, N1, N2, N3, N4, N5, N6, N7, N8, N9, N10, N11, N12, N13, N14, N15, N16, N17, N18, N19, N20, N21, N22, N23, N24, N25, N26, N27, N28, N29, N30, N31, N32, N33, N34, N35, N36, N37, N38, N39, N40, N41, N42, N43, N45, N48, N57, N59, N88, N89, N97, N99, N120, N121, N122, N179, N200, N255, N300, N400, N880, N900, N999, N1019, N50000000, N100000000, N1000000000, N2147483647, N2147483648, f_X6_within_15, isb_1]
theorem rIn {σ : Wd} {z lo hi : Int} (hz : R z) (hl : R lo) (hh : R hi) : f_X7_in (I z) (I lo) (I hi) σ = some (I (bn (decide (lo ≤ z ∧ z ≤ hi))), σ) := by
  unfold R at hz hl hh
  by_cases c1 : z < lo
  · rw [decide_eq_false (by omega), bn_f]
    unfold f_X7_in
    simp (disch := omega) only [↓reduceIte, gd_t, bd_s, nm_W, nm_I, I_add, I_sub, I_mul, I_neg, I_le_t, I_le_f, I_lt_t, I_lt_f, I_eq_t, I_eq_f, I_inb', I_ix', Int.toNat_natCast, decide_true, decide_false, Bool.not_false, Bool.not_true, if_true, if_false, wi_eq, wi_eq', wi_ne, wi_row, wi_2, N0, N1, N2, N3, N4, N5, N6, N7, N8, N9, N10, N11, N12, N13, N14, N15, N16, N17, N18, N19, N20, N21, N22, N23, N24, N25, N26, N27, N28, N29, N30, N31, N32, N33, N34, N35, N36, N37, N38, N39, N40, N41, N42, N43, N45, N48, N57, N59, N88, N89, N97, N99, N120, N121, N122, N179, N200, N255, N300, N400, N880, N900, N999, N1019, N50000000, N100000000, N1000000000, N2147483647, N2147483648, f_X7_in_14, f_X7_in_15, isb_0]
  · by_cases c2 : hi < z
    · rw [decide_eq_false (by omega), bn_f]
      unfold f_X7_in
      simp (disch := omega) only [↓reduceIte, gd_t, bd_s, nm_W, nm_I, I_add, I_sub, I_mul, I_neg, I_le_t, I_le_f, I_lt_t, I_lt_f, I_eq_t, I_eq_f, I_inb', I_ix', Int.toNat_natCast, decide_true, decide_false, Bool.not_false, Bool.not_true, if_true, if_false, wi_eq, wi_eq', wi_ne, wi_row, wi_2, N0, N1, N2, N3, N4, N5, N6, N7, N8, N9, N10, N11, N12, N13, N14, N15, N16, N17, N18, N19, N20, N21, N22, N23, N24, N25, N26, N27, N28, N29, N30, N31, N32, N33, N34, N35, N36, N37, N38, N39, N40, N41, N42, N43, N45, N48, N57, N59, N88, N89, N97, N99, N120, N121, N122, N179, N200, N255, N300, N400, N880, N900, N999, N1019, N50000000, N100000000, N1000000000, N2147483647, N2147483648, f_X7_in_14, f_X7_in_15, isb_0]
    · rw [decide_eq_true ⟨by omega, by omega⟩, bn_t]
      unfold f_X7_in
      simp (disch := omega) only [↓reduceIte, gd_t, bd_s, nm_W, nm_I, I_add, I_sub, I_mul, I_neg, I_le_t, I_le_f, I_lt_t, I_lt_f, I_eq_t, I_eq_f, I_inb', I_ix', Int.toNat_natCast, decide_true, decide_false, Bool.not_false, Bool.not_true, if_true, if_false, wi_eq, wi_eq', wi_ne, wi_row, wi_2, N0, N1, N2, N3, N4, N5, N6, N7, N8, N9, N10, N11, N12, N13, N14, N15, N16, N17, N18, N19, N20, N21, N22, N23, N24, N25, N26, N27, N28, N29, N30, N31, N32, N33, N34, N35, N36, N37, N38, N39, N40, N41, N42, N43, N45, N48, N57, N59, N88, N89, N97, N99, N120, N121, N122, N179, N200, N255, N300, N400, N880, N900, N999, N1019, N50000000, N100000000, N1000000000, N2147483647, N2147483648, f_X7_in_15, isb_1]
theorem cIsV {σ : Wd} {m V : Nat} {z : Int} (hz : R z) (hm : σ.2.2 0 4 = m) (hM : bM m = true) (h3 : σ.1 m 3 = I (V : Int)) (hV : V ≤ 5) : f_X6_isVenue (I z) σ = some (I (bn (decide (0 ≤ z ∧ z < (V : Int)))), σ) := by
  unfold R at hz
  by_cases c1 : z < 0
  · rw [decide_eq_false (by omega), bn_f]
    unfold f_X6_isVenue
    simp (disch := omega) only [↓reduceIte, gd_t, bd_s, nm_W, nm_I, I_add, I_sub, I_mul, I_neg, I_le_t, I_le_f, I_lt_t, I_lt_f, I_eq_t, I_eq_f, I_inb', I_ix', Int.toNat_natCast, decide_true, decide_false, Bool.not_false, Bool.not_true, if_true, if_false, wi_eq, wi_eq', wi_ne, wi_row, wi_2, N0, N1, N2, N3, N4, N5, N6, N7, N8, N9, N10, N11, N12, N13, N14, N15, N16, N17, N18, N19, N20, N21, N22, N23, N24, N25, N26, N27, N28, N29, N30, N31, N32, N33, N34, N35, N36, N37, N38, N39, N40, N41, N42, N43, N45, N48, N57, N59, N88, N89, N97, N99, N120, N121, N122, N179, N200, N255, N300, N400, N880, N900, N999, N1019, N50000000, N100000000, N1000000000, N2147483647, N2147483648, f_X6_isVenue_19, f_X6_isVenue_20, isb_0]
  · by_cases c2 : (V : Int) ≤ z
    · rw [decide_eq_false (by omega), bn_f]
      unfold f_X6_isVenue
      simp (disch := omega) only [↓reduceIte, gd_t, bd_s, nm_W, nm_I, I_add, I_sub, I_mul, I_neg, I_le_t, I_le_f, I_lt_t, I_lt_f, I_eq_t, I_eq_f, I_inb', I_ix', Int.toNat_natCast, decide_true, decide_false, Bool.not_false, Bool.not_true, if_true, if_false, wi_eq, wi_eq', wi_ne, wi_row, wi_2, N0, N1, N2, N3, N4, N5, N6, N7, N8, N9, N10, N11, N12, N13, N14, N15, N16, N17, N18, N19, N20, N21, N22, N23, N24, N25, N26, N27, N28, N29, N30, N31, N32, N33, N34, N35, N36, N37, N38, N39, N40, N41, N42, N43, N45, N48, N57, N59, N88, N89, N97, N99, N120, N121, N122, N179, N200, N255, N300, N400, N880, N900, N999, N1019, N50000000, N100000000, N1000000000, N2147483647, N2147483648, hm, hM, h3, f_X6_isVenue_19, f_X6_isVenue_20, isb_0]
    · rw [decide_eq_true ⟨by omega, by omega⟩, bn_t]
      unfold f_X6_isVenue
      simp (disch := omega) only [↓reduceIte, gd_t, bd_s, nm_W, nm_I, I_add, I_sub, I_mul, I_neg, I_le_t, I_le_f, I_lt_t, I_lt_f, I_eq_t, I_eq_f, I_inb', I_ix', Int.toNat_natCast, decide_true, decide_false, Bool.not_false, Bool.not_true, if_true, if_false, wi_eq, wi_eq', wi_ne, wi_row, wi_2, N0, N1, N2, N3, N4, N5, N6, N7, N8, N9, N10, N11, N12, N13, N14, N15, N16, N17, N18, N19, N20, N21, N22, N23, N24, N25, N26, N27, N28, N29, N30, N31, N32, N33, N34, N35, N36, N37, N38, N39, N40, N41, N42, N43, N45, N48, N57, N59, N88, N89, N97, N99, N120, N121, N122, N179, N200, N255, N300, N400, N880, N900, N999, N1019, N50000000, N100000000, N1000000000, N2147483647, N2147483648, hm, hM, h3, f_X6_isVenue_20, isb_1]
theorem rIsV {τ : Wd} {V : Nat} {z x : Int} (hz : R z) (h21 : τ.1 102 21 = I x) (hx : 0 ≤ x ∧ x ≤ 1) (h14 : τ.1 102 14 = I (V : Int)) (hV : V ≤ 5) : f_X7_isVenue (I z) τ = some (I (bn (decide (x = 1 ∧ 0 ≤ z ∧ z < (V : Int)))), τ) := by
  have ei := rIn (σ := τ) (lo := 0) (hi := (V : Int) - 1) hz (by unfold R; omega) (by unfold R; omega)
  by_cases c0 : x = 0
  · rw [decide_eq_false (by omega), bn_f]
    unfold f_X7_isVenue
    simp (disch := omega) only [↓reduceIte, gd_t, bd_s, nm_W, nm_I, I_add, I_sub, I_mul, I_neg, I_le_t, I_le_f, I_lt_t, I_lt_f, I_eq_t, I_eq_f, I_inb', I_ix', Int.toNat_natCast, decide_true, decide_false, Bool.not_false, Bool.not_true, if_true, if_false, wi_eq, wi_eq', wi_ne, wi_row, wi_2, N0, N1, N2, N3, N4, N5, N6, N7, N8, N9, N10, N11, N12, N13, N14, N15, N16, N17, N18, N19, N20, N21, N22, N23, N24, N25, N26, N27, N28, N29, N30, N31, N32, N33, N34, N35, N36, N37, N38, N39, N40, N41, N42, N43, N45, N48, N57, N59, N88, N89, N97, N99, N120, N121, N122, N179, N200, N255, N300, N400, N880, N900, N999, N1019, N50000000, N100000000, N1000000000, N2147483647, N2147483648, h21, f_X7_isVenue_25, f_X7_isVenue_26, isb_0]
  · by_cases c1 : 0 ≤ z ∧ z ≤ (V : Int) - 1
    · rw [decide_eq_true c1, bn_t] at ei
      rw [decide_eq_true (by omega), bn_t]
      unfold f_X7_isVenue
      simp (disch := omega) only [↓reduceIte, gd_t, bd_s, nm_W, nm_I, I_add, I_sub, I_mul, I_neg, I_le_t, I_le_f, I_lt_t, I_lt_f, I_eq_t, I_eq_f, I_inb', I_ix', Int.toNat_natCast, decide_true, decide_false, Bool.not_false, Bool.not_true, if_true, if_false, wi_eq, wi_eq', wi_ne, wi_row, wi_2, N0, N1, N2, N3, N4, N5, N6, N7, N8, N9, N10, N11, N12, N13, N14, N15, N16, N17, N18, N19, N20, N21, N22, N23, N24, N25, N26, N27, N28, N29, N30, N31, N32, N33, N34, N35, N36, N37, N38, N39, N40, N41, N42, N43, N45, N48, N57, N59, N88, N89, N97, N99, N120, N121, N122, N179, N200, N255, N300, N400, N880, N900, N999, N1019, N50000000, N100000000, N1000000000, N2147483647, N2147483648, h21, h14, ei, f_X7_isVenue_26, isb_1]
    · rw [decide_eq_false c1, bn_f] at ei
      rw [decide_eq_false (by omega), bn_f]
      unfold f_X7_isVenue
      simp (disch := omega) only [↓reduceIte, gd_t, bd_s, nm_W, nm_I, I_add, I_sub, I_mul, I_neg, I_le_t, I_le_f, I_lt_t, I_lt_f, I_eq_t, I_eq_f, I_inb', I_ix', Int.toNat_natCast, decide_true, decide_false, Bool.not_false, Bool.not_true, if_true, if_false, wi_eq, wi_eq', wi_ne, wi_row, wi_2, N0, N1, N2, N3, N4, N5, N6, N7, N8, N9, N10, N11, N12, N13, N14, N15, N16, N17, N18, N19, N20, N21, N22, N23, N24, N25, N26, N27, N28, N29, N30, N31, N32, N33, N34, N35, N36, N37, N38, N39, N40, N41, N42, N43, N45, N48, N57, N59, N88, N89, N97, N99, N120, N121, N122, N179, N200, N255, N300, N400, N880, N900, N999, N1019, N50000000, N100000000, N1000000000, N2147483647, N2147483648, h21, h14, ei, f_X7_isVenue_25, f_X7_isVenue_26, isb_0]
end
section
/-! PURE: the questions with an amount -/
def CL_ (σ σ' : Wd) : Prop := (∀ k, 102 ≤ k → σ'.1 k = σ.1 k) ∧ σ'.2.1 = σ.2.1
def RL_ (τ τ' : Wd) : Prop := (∀ k, k < 102 → τ'.1 k = τ.1 k) ∧ τ'.2.2 = τ.2.2
def QF (σ σ' : Wd) : Prop := (∀ k, k < 4 ∨ 10 < k → σ'.1 k = σ.1 k) ∧ σ'.2 = σ.2
def RQ (τ τ' : Wd) : Prop := (∀ k, k ≠ 102 → k < 116 ∨ 119 < k → τ'.1 k = τ.1 k) ∧ (∀ i, i < 37 ∨ 39 < i → τ'.1 102 i = τ.1 102 i) ∧ τ'.2 = τ.2
def MT (fc fr : Wd → Option (Int32 × Wd)) : Prop := ∀ (σ τ : Wd) (B : Int), GG σ τ B → B ≤ 200000 → ∃ (x : Int32) (σ' τ' : Wd), fc σ = some (x, σ') ∧ fr τ = some (x, τ') ∧ GG σ' τ' (B + 200) ∧ CL_ σ σ' ∧ RL_ τ τ'
theorem bMm {m : Nat} {x : Nat} (h : (m = 11 ∧ x = 24) ∨ (m = 24 ∧ x = 11)) : bM m = true ∧ 10 < m ∧ m + 12 < 63 := by
  rcases h with ⟨h, -⟩ | ⟨h, -⟩ <;> subst h <;> decide
theorem cAmount {σ : Wd} {pres : Bool} {a q : Int} (h : σ.1 0 10 = I (bn pres)) (ha : 0 ≤ a ∧ a ≤ 1) (hq : R q) :
    f_X6_grantedAmount (I a) (I q) σ = some (I (bn (decide (tc pres a (bn (decide (1 ≤ q ∧ q ≤ 120))) 1 = 0))), wi σ 0 12 (I (tc pres a (bn (decide (1 ≤ q ∧ q ≤ 120))) 1))) := by
  have e1 := cWithin (σ := σ) (lo := 1) (hi := 120) hq (by unfold R; omega) (by unfold R; omega)
  have e2 := cGrant (n := bn (decide (1 ≤ q ∧ q ≤ 120))) (s := 1) h ha (bn_bnd _) (by omega)
  unfold f_X6_grantedAmount
  rw [show (1 : Int32) = I 1 from rfl, show (120 : Int32) = I 120 from rfl, e1, bd_s, e2, bd_s, isb_b, gd_t]
theorem rAmount {τ : Wd} {pres : Bool} {a q : Int} (h : τ.1 102 21 = I (bn pres)) (ha : 0 ≤ a ∧ a ≤ 1) (hq : R q) :
    f_X7_refusesQ (I a) (I q) τ = some (I (tc pres a (bn (decide (1 ≤ q ∧ q ≤ 120))) 1), τ) := by
  have e1 := rIn (σ := τ) (lo := 1) (hi := 120) hq (by unfold R; omega) (by unfold R; omega)
  obtain ⟨y, hy⟩ : ∃ y, y = bn (decide (1 ≤ q ∧ q ≤ 120)) := ⟨_, rfl⟩
  have yb := bn_bnd (decide (1 ≤ q ∧ q ≤ 120))
  rw [← hy] at e1 yb ⊢
  obtain ⟨x, hx⟩ : ∃ x, x = bn pres := ⟨_, rfl⟩
  have xb := bn_bnd pres
  rw [← hx] at h xb
  by_cases c1 : x = 0
  · have e : tc pres a y 1 = 1 := by
      unfold tc
      rw [if_pos (Or.inl (by cases pres with
        | false => rfl
        | true => rw [hx] at c1; cases c1))]
    rw [e]
    unfold f_X7_refusesQ f_X7_refusesQ_11 f_X7_refusesQ_30
    simp (disch := omega) only [↓reduceIte, gd_t, bd_s, nm_W, nm_I, I_add, I_sub, I_mul, I_neg, I_le_t, I_le_f, I_lt_t, I_lt_f, I_eq_t, I_eq_f, I_inb', I_ix', Int.toNat_natCast, decide_true, decide_false, Bool.not_false, Bool.not_true, if_true, if_false, wi_eq, wi_eq', wi_ne, wi_row, wi_2, N0, N1, N2, N3, N4, N5, N6, N7, N8, N9, N10, N11, N12, N13, N14, N15, N16, N17, N18, N19, N20, N21, N22, N23, N24, N25, N26, N27, N28, N29, N30, N31, N32, N33, N34, N35, N36, N37, N38, N39, N40, N41, N42, N43, N45, N48, N57, N59, N88, N89, N97, N99, N120, N121, N122, N179, N200, N255, N300, N400, N880, N900, N999, N1019, N50000000, N100000000, N1000000000, N2147483647, N2147483648, h]
  · have pt : pres = true := by
      cases pres with
      | false => rw [hx] at c1; exact absurd rfl c1
      | true => rfl
    by_cases c2 : a = 0
    · have e : tc pres a y 1 = 1 := by unfold tc; rw [if_pos (Or.inr c2)]
      rw [e]
      unfold f_X7_refusesQ f_X7_refusesQ_11 f_X7_refusesQ_30
      simp (disch := omega) only [↓reduceIte, gd_t, bd_s, nm_W, nm_I, I_add, I_sub, I_mul, I_neg, I_le_t, I_le_f, I_lt_t, I_lt_f, I_eq_t, I_eq_f, I_inb', I_ix', Int.toNat_natCast, decide_true, decide_false, Bool.not_false, Bool.not_true, if_true, if_false, wi_eq, wi_eq', wi_ne, wi_row, wi_2, N0, N1, N2, N3, N4, N5, N6, N7, N8, N9, N10, N11, N12, N13, N14, N15, N16, N17, N18, N19, N20, N21, N22, N23, N24, N25, N26, N27, N28, N29, N30, N31, N32, N33, N34, N35, N36, N37, N38, N39, N40, N41, N42, N43, N45, N48, N57, N59, N88, N89, N97, N99, N120, N121, N122, N179, N200, N255, N300, N400, N880, N900, N999, N1019, N50000000, N100000000, N1000000000, N2147483647, N2147483648, h]
    · have h1 : ¬ (pres = false ∨ a = 0) := fun q => by
        rcases q with q | q
        · rw [pt] at q; cases q
        · exact c2 q
      by_cases c3 : y = 0
      · have e : tc pres a y 1 = 2 := by unfold tc; rw [if_neg h1, if_pos c3]
        rw [e]
        unfold f_X7_refusesQ f_X7_refusesQ_30
        simp (disch := omega) only [↓reduceIte, gd_t, bd_s, nm_W, nm_I, I_add, I_sub, I_mul, I_neg, I_le_t, I_le_f, I_lt_t, I_lt_f, I_eq_t, I_eq_f, I_inb', I_ix', Int.toNat_natCast, decide_true, decide_false, Bool.not_false, Bool.not_true, if_true, if_false, wi_eq, wi_eq', wi_ne, wi_row, wi_2, N0, N1, N2, N3, N4, N5, N6, N7, N8, N9, N10, N11, N12, N13, N14, N15, N16, N17, N18, N19, N20, N21, N22, N23, N24, N25, N26, N27, N28, N29, N30, N31, N32, N33, N34, N35, N36, N37, N38, N39, N40, N41, N42, N43, N45, N48, N57, N59, N88, N89, N97, N99, N120, N121, N122, N179, N200, N255, N300, N400, N880, N900, N999, N1019, N50000000, N100000000, N1000000000, N2147483647, N2147483648, h, e1]
      · have e : tc pres a y 1 = 0 := by unfold tc; rw [if_neg h1, if_neg c3, if_neg (by decide)]
        rw [e]
        unfold f_X7_refusesQ f_X7_refusesQ_30
        simp (disch := omega) only [↓reduceIte, gd_t, bd_s, nm_W, nm_I, I_add, I_sub, I_mul, I_neg, I_le_t, I_le_f, I_lt_t, I_lt_f, I_eq_t, I_eq_f, I_inb', I_ix', Int.toNat_natCast, decide_true, decide_false, Bool.not_false, Bool.not_true, if_true, if_false, wi_eq, wi_eq', wi_ne, wi_row, wi_2, N0, N1, N2, N3, N4, N5, N6, N7, N8, N9, N10, N11, N12, N13, N14, N15, N16, N17, N18, N19, N20, N21, N22, N23, N24, N25, N26, N27, N28, N29, N30, N31, N32, N33, N34, N35, N36, N37, N38, N39, N40, N41, N42, N43, N45, N48, N57, N59, N88, N89, N97, N99, N120, N121, N122, N179, N200, N255, N300, N400, N880, N900, N999, N1019, N50000000, N100000000, N1000000000, N2147483647, N2147483648, h, e1]
theorem goodR {τ : Wd} {x : Int32} : f_X7_good x τ = some (x, wi (wi τ 102 1 (I 0)) 102 2 (I (-1))) := rfl
theorem refR {τ : Wd} {c : Int32} : f_X7_refused c τ = some (I (-1), wi (wi τ 102 1 c) 102 2 (I (-1))) := rfl
theorem refL {τ : Wd} {c : Int32} : f_X7_refusedLow c τ = some (I (-2147483648), wi (wi τ 102 1 c) 102 2 (I (-1))) := rfl
theorem tc_0 {pres : Bool} {a n s : Int} (h : tc pres a n s = 0) : pres = true ∧ a ≠ 0 ∧ n ≠ 0 ∧ s ≠ 0 := by
  unfold tc at h
  by_cases c1 : pres = false ∨ a = 0
  · rw [if_pos c1] at h; omega
  · rw [if_neg c1] at h
    by_cases c2 : n = 0
    · rw [if_pos c2] at h; omega
    · rw [if_neg c2] at h
      by_cases c3 : s = 0
      · rw [if_pos c3] at h; omega
      · refine ⟨?_, fun q => c1 (Or.inr q), c2, c3⟩
        cases pres with
        | false => exact absurd (Or.inl rfl) c1
        | true => rfl
theorem tc_eq {pres : Bool} {a a' n s : Int} (h : pres = true → a = a') : tc pres a n s = tc pres a' n s := by
  cases pres with
  | false => unfold tc; rw [if_pos (Or.inl rfl), if_pos (Or.inl rfl)]
  | true => rw [h rfl]
set_option maxHeartbeats 1000000 in
theorem amt_ok {m V E : Nat} {σ τ : Wd} {pres kp : Bool} {d : MD} {p L W : Int} {dl pl et : Nat → Int} {b : Bool} {t s rd : Int} {h n g : Nat → Int} {B q a a' : Int} {low : Int32} {K K' : Wd → Option (Int32 × Wd)} {Rf : Int32 → Wd → Option (Int32 × Wd)}
    (hG : GA m σ τ V E pres kp d p L W dl pl et b t s rd h n g B) (hq : R q) (ha : 0 ≤ a ∧ a ≤ 1) (ha' : 0 ≤ a' ∧ a' ≤ 1) (haa : pres = true → a = a') (hRf : ∀ c τ, Rf c τ = some (low, wi (wi τ 102 1 c) 102 2 (I (-1))))
    (hK : pres = true → a = 1 → 1 ≤ q → q ≤ 120 → ∀ σ2 τ3, QM m σ2 τ3 V d p L W dl pl → σ2.2.2 0 4 = m → ∃ (x : Int32) (σ' τ4 : Wd), K σ2 = some (x, σ') ∧ K' τ3 = bd (f_X7_good x τ4) (fun r s => some (r, s)) ∧ QF σ2 σ' ∧ RQ τ3 τ4) :
    ∃ (x : Int32) (σ' τ' : Wd), (bd (f_X6_grantedAmount (I a) (I q) σ) fun r1 σ2 => if r1 = 0 then some (low, σ2) else K σ2) = some (x, σ')
      ∧ (nmW (wi τ 102 0 (0 : Int32)) fun σ1 => bd (f_X7_refusesQ (I a') (I q) σ1) fun r2 σ3 => if r2 ≤ 0 then K' σ3 else bd (Rf r2 σ3) fun r s => some (r, s)) = some (x, τ')
      ∧ GA m σ' τ' V E pres kp d p L W dl pl et b t s rd h n g B ∧ CL_ σ σ' ∧ RL_ τ τ' := by
  have hG0 := hG
  obtain ⟨g1, g2, ⟨g3, g4⟩, ⟨g5, g6, g7⟩, -⟩ := hG0
  obtain ⟨bm, m10, m63⟩ := bMm g1
  have e1 := cAmount (σ := σ) g5 ha hq
  have e2 := rAmount (τ := wi τ 102 0 (I 0)) (by rw [wi_ne (by decide)]; exact g6) ha' hq
  rw [← tc_eq haa] at e2
  obtain ⟨c, hc⟩ : ∃ c, c = tc pres a (bn (decide (1 ≤ q ∧ q ≤ 120))) 1 := ⟨_, rfl⟩
  have cb := tc_b (pres := pres) (a := a) (n := bn (decide (1 ≤ q ∧ q ≤ 120))) (s := 1)
  rw [← hc] at e1 e2 cb
  have z0 : (0 : Int32) = I 0 := rfl
  rw [nm_W, z0, e1, e2, bd_s, bd_s]
  by_cases c0 : c = 0
  · obtain ⟨x1, x2, x3, -⟩ := tc_0 (hc.symm.trans c0)
    have x4 : 1 ≤ q ∧ q ≤ 120 := by
      by_cases y : 1 ≤ q ∧ q ≤ 120
      · exact y
      · rw [decide_eq_false y] at x3; exact absurd rfl x3
    have M2 : QM m (wi σ 0 12 (I c)) (wi τ 102 0 (I 0)) V d p L W dl pl := QM_rows g3.1 (fun k a1 a2 => wi_row (by omega)) (fun i a1 a2 => wi_ne (by omega)) (wi_row (by decide)) (wi_row (by decide)) (fun i _ => by rw [wi_row (by decide)])
    obtain ⟨x, σ', τ4, k1, k2, ⟨k3, k4⟩, ⟨k5, k6, k7⟩⟩ := hK x1 (by omega) x4.1 x4.2 _ _ M2 (by rw [wi_2]; exact g2)
    refine ⟨x, σ', wi (wi τ4 102 1 (I 0)) 102 2 (I (-1)), ?_, ?_, ?_, ⟨fun k hk => by rw [k3 k (by omega), wi_row (by omega)], by rw [k4, wi_2]⟩, ⟨fun k hk => by rw [wi_row (by omega), wi_row (by omega), k5 k (by omega) (by omega), wi_row (by omega)], by rw [wi_2, wi_2, k7, wi_2]⟩⟩
    · rw [decide_eq_true c0, bn_t, if_neg (by decide)]
      exact k1
    · rw [c0, if_pos (by decide), k2, goodR]
      rfl
    · refine GA_q (c := 0) hG (fun k a1 a2 => by rw [k3 k a2, wi_row a1]) (fun i a1 => by rw [k3 0 (by decide), wi_ne a1]) (by rw [k4, wi_2]) (fun k a1 a2 => by rw [wi_row a1, wi_row a1, k5 k a1 a2, wi_row a1]) (fun i a1 a2 => by rw [wi_ne (by omega), wi_ne (by omega), k6 i a2, wi_ne (by omega)]) (by rw [k3 0 (by decide), wi_eq, c0]) (by rw [wi_ne (by decide), wi_eq]) wi_eq (by omega)
  · have nc : ¬ I c ≤ I 0 := by rw [I_le (by unfold R; omega) (by unfold R; omega)]; omega
    refine ⟨low, wi σ 0 12 (I c), wi (wi (wi τ 102 0 (I 0)) 102 1 (I c)) 102 2 (I (-1)), ?_, ?_, ?_, ⟨fun k hk => by rw [wi_row (by omega)], by rw [wi_2]⟩, ⟨fun k hk => by rw [wi_row (by omega), wi_row (by omega), wi_row (by omega)], by rw [wi_2, wi_2, wi_2]⟩⟩
    · rw [decide_eq_false c0, bn_f, if_pos rfl]
    · rw [if_neg nc, hRf]
      rfl
    · exact GA_q (c := c) hG (fun k a1 a2 => wi_row a1) (fun i a1 => wi_ne a1) wi_2 (fun k a1 a2 => by rw [wi_row a1, wi_row a1, wi_row a1]) (fun i a1 a2 => by rw [wi_ne (by omega), wi_ne (by omega), wi_ne (by omega)]) wi_eq (by rw [wi_ne (by decide), wi_eq]) wi_eq cb
/-! helpers at a granted call -/
theorem QM_p {m V : Nat} {σ τ : Wd} {d : MD} {p L W : Int} {dl pl : Nat → Int} (h : QM m σ τ V d p L W dl pl) : R p := by
  have := h.2.2.2.1
  unfold R
  omega
theorem nat_of {q : Int} (h1 : 0 ≤ q) (h2 : q ≤ 120) : ∃ n : Nat, q = (n : Int) ∧ n ≤ 120 := ⟨q.toNat, by omega, by omega⟩
theorem best2 {m V : Nat} {σ τ : Wd} {d : MD} {p L W q but : Int} {dl pl : Nat → Int} (hm : 10 < m) (h : QM m σ τ V d p L W dl pl) (h0 : 0 ≤ q) (h1 : q ≤ 120) (hb : R but) :
    ∃ (σ' τ' : Wd) (U : Nat) (C : Int32) (sh : Nat → Int32), f_X1_choose m (I q) (I but) σ = some (0, σ') ∧ f_X7_laysBest (I q) (I but) τ = some (0, τ') ∧ U ≤ 120 ∧ (σ'.1 4 0 = I (U : Int) ∧ τ'.1 102 37 = I (U : Int)) ∧ (σ'.1 4 1 = C ∧ τ'.1 102 38 = C) ∧ (∀ v, v < V → σ'.1 5 v = sh v ∧ τ'.1 117 v = sh v)
      ∧ QF σ σ' ∧ RQ τ τ' ∧ QM m σ' τ' V d p L W dl pl := by
  obtain ⟨n, rfl, n1⟩ := nat_of h0 h1
  obtain ⟨σ', a1, a2, a3, a4, a5, a6⟩ := cChoose (q := n) (but := but) hm h.1 (QM_p h) hb n1 h.2.1 h.2.2.2.1.1
  obtain ⟨τ', b1, b2, b3, b4, b5, b6, b7⟩ := rBest (q := n) (but := but) h.1 (QM_p h) hb n1 h.2.2.1 h.2.2.2.1.2.1
  have ub := bu_le (f := lcs d p but V V) n
  refine ⟨σ', τ', bu (lcs d p but V V) n, _, fun v => I (shs d p but V V (bu (lcs d p but V V) n) v : Int), a1, b1, by omega, ⟨a2, b2⟩, ⟨a3, b3⟩, fun v hv => ⟨a4 v hv, b4 v hv⟩, ⟨fun k hk => a5 k (by omega), a6⟩, ⟨fun k k1 k2 => b5 k k1 (by omega) (by omega), fun i hi => b6 i (by omega) (by omega), b7⟩, ?_⟩
  exact QM_rows h (fun k k1 k2 => a5 k (by omega)) (fun i i1 i2 => b6 i (by omega) (by omega)) (b5 103 (by decide) (by decide) (by decide)) (b5 104 (by decide) (by decide) (by decide)) (fun i _ => by rw [b5 112 (by decide) (by decide) (by decide)])
theorem QF_trans {a b c : Wd} (h : QF a b) (g : QF b c) : QF a c := ⟨fun k hk => by rw [g.1 k hk, h.1 k hk], by rw [g.2, h.2]⟩
theorem RQ_trans {a b c : Wd} (h : RQ a b) (g : RQ b c) : RQ a c := ⟨fun k k1 k2 => by rw [g.1 k k1 k2, h.1 k k1 k2], fun i hi => by rw [g.2.1 i hi, h.2.1 i hi], by rw [g.2.2, h.2.2]⟩
theorem argI (x : Int32) : ∃ z : Int, x = I z ∧ R z := ⟨x.toInt, (I_of x).symm, toInt_R x⟩
theorem m_units (x : Int32) : MT (f_X6_units x) (f_X7_units x) := by
  intro σ τ B ⟨m, V, E, pres, kp, d, p, L, W, dl, pl, et, b, t, s, rd, h, n, g, hG⟩ hB
  obtain ⟨q, rfl, hq⟩ := argI x
  obtain ⟨bm, m10, m63⟩ := bMm hG.1
  obtain ⟨x, σ', τ', k1, k2, k3, k4⟩ := amt_ok (a := 1) (a' := 1) (low := I (-1)) (K := fun σ2 => gd (bM (σ2.2.2 0 4)) (bd (f_X1_choose (σ2.2.2 0 4) (I q) (I (-1)) σ2) fun _ σ4 => some (σ4.1 4 0, σ4))) (K' := fun σ3 => bd (f_X7_laysBest (I q) (I (-1)) σ3) fun _ σ4 => bd (f_X7_good (σ4.1 102 37) σ4) fun r5 σ6 => some (r5, σ6)) (Rf := f_X7_refused)
    hG hq (by omega) (by omega) (fun _ => rfl) (fun c τ => refR) (fun _ _ q1 q2 σ2 τ3 hM hm => by
      obtain ⟨σ', τ', U, C, sh, e1, e2, e3, ⟨e4, e5⟩, e6, e7, e8, e9, e10⟩ := best2 (but := -1) m10 hM (show 0 ≤ q by omega) q2 (by unfold R; omega)
      exact ⟨I (U : Int), σ', τ', by rw [hm, bm, gd_t, e1, bd_s, e4], by rw [e2, bd_s, e5], e8, e9⟩)
  exact ⟨x, σ', τ', k1, k2, ⟨m, V, E, pres, kp, d, p, L, W, dl, pl, et, b, t, s, rd, h, n, g, GA_B k3 (by omega)⟩, k4⟩
theorem m_best (x : Int32) : MT (f_X6_best x) (f_X7_best x) := by
  intro σ τ B ⟨m, V, E, pres, kp, d, p, L, W, dl, pl, et, b, t, s, rd, h, n, g, hG⟩ hB
  obtain ⟨q, rfl, hq⟩ := argI x
  obtain ⟨bm, m10, m63⟩ := bMm hG.1
  obtain ⟨x, σ', τ', k1, k2, k3, k4⟩ := amt_ok (a := 1) (a' := 1) (low := I (-2147483648)) (K := fun σ2 => gd (bM (σ2.2.2 0 4)) (bd (f_X1_choose (σ2.2.2 0 4) (I q) (I (-1)) σ2) fun _ σ4 => some (σ4.1 4 1, σ4))) (K' := fun σ3 => bd (f_X7_laysBest (I q) (I (-1)) σ3) fun _ σ4 => bd (f_X7_good (σ4.1 102 38) σ4) fun r5 σ6 => some (r5, σ6)) (Rf := f_X7_refusedLow)
    hG hq (by omega) (by omega) (fun _ => rfl) (fun c τ => refL) (fun _ _ q1 q2 σ2 τ3 hM hm => by
      obtain ⟨σ', τ', U, C, sh, e1, e2, e3, e4, ⟨e5, e6⟩, e7, e8, e9, e10⟩ := best2 (but := -1) m10 hM (show 0 ≤ q by omega) q2 (by unfold R; omega)
      exact ⟨C, σ', τ', by rw [hm, bm, gd_t, e1, bd_s, e5], by rw [e2, bd_s, e6], e8, e9⟩)
  exact ⟨x, σ', τ', k1, k2, ⟨m, V, E, pres, kp, d, p, L, W, dl, pl, et, b, t, s, rd, h, n, g, GA_B k3 (by omega)⟩, k4⟩
end
section
/-! PURE: more questions with an amount -/
theorem isV_b {V : Nat} {z x : Int} {pres : Bool} (hx : x = bn pres) : pres = true → bn (decide (0 ≤ z ∧ z < (V : Int))) = bn (decide (x = 1 ∧ 0 ≤ z ∧ z < (V : Int))) := by
  intro h
  rw [h] at hx
  rw [hx, bn_t]
  congr 1
  exact decide_eq_decide.mpr ⟨fun q => ⟨rfl, q⟩, fun q => q.2⟩
theorem isV_1 {V : Nat} {z : Int} (h : bn (decide (0 ≤ z ∧ z < (V : Int))) = 1) : 0 ≤ z ∧ z < (V : Int) := by
  by_cases c : 0 ≤ z ∧ z < (V : Int)
  · exact c
  · rw [decide_eq_false c, bn_f] at h
    omega
/-- as amt_ok, with a venue asked for first -/
theorem amtv_ok {m V E : Nat} {σ τ : Wd} {pres kp : Bool} {d : MD} {p L W : Int} {dl pl et : Nat → Int} {b : Bool} {t s rd : Int} {h n g : Nat → Int} {B q v : Int} {low : Int32} {K K' : Wd → Option (Int32 × Wd)} {Rf : Int32 → Wd → Option (Int32 × Wd)}
    (hG : GA m σ τ V E pres kp d p L W dl pl et b t s rd h n g B) (hq : R q) (hv : R v) (hRf : ∀ c τ, Rf c τ = some (low, wi (wi τ 102 1 c) 102 2 (I (-1))))
    (hK : pres = true → 0 ≤ v → v < (V : Int) → 1 ≤ q → q ≤ 120 → ∀ σ2 τ3, QM m σ2 τ3 V d p L W dl pl → σ2.2.2 0 4 = m → ∃ (x : Int32) (σ' τ4 : Wd), K σ2 = some (x, σ') ∧ K' τ3 = bd (f_X7_good x τ4) (fun r s => some (r, s)) ∧ QF σ2 σ' ∧ RQ τ3 τ4) :
    ∃ (x : Int32) (σ' τ' : Wd), (bd (f_X6_isVenue (I v) σ) fun r0 σ1 => bd (f_X6_grantedAmount r0 (I q) σ1) fun r1 σ2 => if r1 = 0 then some (low, σ2) else K σ2) = some (x, σ')
      ∧ (nmW (wi τ 102 0 (0 : Int32)) fun σ0 => bd (f_X7_isVenue (I v) σ0) fun r0 σ1 => bd (f_X7_refusesQ r0 (I q) σ1) fun r2 σ3 => if r2 ≤ 0 then K' σ3 else bd (Rf r2 σ3) fun r s => some (r, s)) = some (x, τ')
      ∧ GA m σ' τ' V E pres kp d p L W dl pl et b t s rd h n g B ∧ CL_ σ σ' ∧ RL_ τ τ' := by
  obtain ⟨bm, m10, m63⟩ := bMm hG.1
  have e1 := cIsV (σ := σ) hv hG.2.1 bm hG.2.2.1.1.1.2.1.1 hG.2.2.1.1.1.1.1
  have e2 := rIsV (τ := wi τ 102 0 (0 : Int32)) (V := V) (x := bn pres) hv (by rw [wi_ne (by decide)]; exact hG.2.2.2.1.2.1) (bn_bnd _) (by rw [wi_ne (by decide)]; exact hG.2.2.1.1.1.2.2.1.1) hG.2.2.1.1.1.1.1
  obtain ⟨x, σ', τ', k1, k2, k3⟩ := amt_ok (K := K) (K' := K') (Rf := Rf) (low := low) hG hq (bn_bnd (decide (0 ≤ v ∧ v < (V : Int)))) (bn_bnd (decide (bn pres = 1 ∧ 0 ≤ v ∧ v < (V : Int)))) (isV_b rfl) hRf (fun a1 a2 a3 a4 => hK a1 (isV_1 a2).1 (isV_1 a2).2 a3 a4)
  refine ⟨x, σ', τ', ?_, ?_, k3⟩
  · rw [e1, bd_s]
    exact k1
  · rw [nm_W, e2, bd_s]
    exact k2
theorem bound2 {m V : Nat} {σ τ : Wd} {d : MD} {p L W q : Int} {dl pl : Nat → Int} (hm : 10 < m) (h : QM m σ τ V d p L W dl pl) (h0 : 0 ≤ q) (h1 : q ≤ 120) :
    ∃ (σ' τ' : Wd) (x y : Int32), f_X0_measure m (I q) σ = some (0, σ') ∧ f_X7_boundOf (I q) τ = some (x, τ') ∧ σ'.1 10 0 = x ∧ σ'.1 10 1 = y ∧ τ'.1 102 39 = y ∧ (∀ k, k ≠ 10 → σ'.1 k = σ.1 k) ∧ QF σ σ' ∧ RQ τ τ' ∧ (∀ i, i ≠ 39 → τ'.1 102 i = τ.1 102 i) := by
  obtain ⟨n, rfl, n1⟩ := nat_of h0 h1
  obtain ⟨σ', a1, a2, a3, a4, a5⟩ := cBound (q := n) hm h.1 (QM_p h) n1 h.2.1 h.2.2.2.1.1
  obtain ⟨τ', b1, b2, b3, b4, b5⟩ := rBound (q := n) h.1 (QM_p h) n1 h.2.2.1 h.2.2.2.1.2.1
  exact ⟨σ', τ', _, _, a1, b1, a2, a3, b2, a4, ⟨fun k hk => a4 k (by omega), a5⟩, ⟨fun k k1 _ => b3 k k1, fun i hi => b4 i (by omega), b5⟩, b4⟩
theorem m_share (x y : Int32) : MT (f_X6_share x y) (f_X7_share x y) := by
  intro σ τ B ⟨m, V, E, pres, kp, d, p, L, W, dl, pl, et, b, t, s, rd, h, n, g, hG⟩ hB
  obtain ⟨q, rfl, hq⟩ := argI x
  obtain ⟨v, rfl, hv⟩ := argI y
  obtain ⟨bm, m10, m63⟩ := bMm hG.1
  obtain ⟨x, σ', τ', k1, k2, k3, k4⟩ := amtv_ok (v := v) (low := I (-1)) (K := fun σ4 => gd (bM (σ4.2.2 0 4)) (bd (f_X1_choose (σ4.2.2 0 4) (I q) (I (-1)) σ4) fun _ σ6 => gd (inb (I v) 5) (some (σ6.1 5 (ix (I v)), σ6)))) (K' := fun σ5 => bd (f_X7_laysBest (I q) (I (-1)) σ5) fun _ σ6 => gd (inb (I v) 5) (bd (f_X7_good (σ6.1 117 (ix (I v))) σ6) fun r7 σ8 => some (r7, σ8))) (Rf := f_X7_refused)
    hG hq hv (fun c τ => refR) (fun _ v0 v1 q1 q2 σ2 τ3 hM hm => by
      obtain ⟨σ', τ', U, C, sh, e1, e2, e3, e4, e5, e7, e8, e9, e10⟩ := best2 (but := -1) m10 hM (show 0 ≤ q by omega) q2 (by unfold R; omega)
      have h5 := hM.1.1
      have i1 : inb (I v) 5 = true := I_inb v0 (by omega) (by decide)
      have i2 : ix (I v) = v.toNat := I_ix v0 (by omega)
      obtain ⟨s1, s2⟩ := e7 v.toNat (by omega)
      exact ⟨sh v.toNat, σ', τ', by rw [hm, bm, gd_t, e1, bd_s, i1, gd_t, i2, s1], by rw [e2, bd_s, i1, gd_t, i2, s2], e8, e9⟩)
  exact ⟨x, σ', τ', k1, k2, ⟨m, V, E, pres, kp, d, p, L, W, dl, pl, et, b, t, s, rd, h, n, g, GA_B k3 (by omega)⟩, k4⟩
theorem m_bound (x : Int32) : MT (f_X6_bound x) (f_X7_bound x) := by
  intro σ τ B ⟨m, V, E, pres, kp, d, p, L, W, dl, pl, et, b, t, s, rd, h, n, g, hG⟩ hB
  obtain ⟨q, rfl, hq⟩ := argI x
  obtain ⟨bm, m10, m63⟩ := bMm hG.1
  obtain ⟨x, σ', τ', k1, k2, k3, k4⟩ := amt_ok (a := 1) (a' := 1) (low := I (-2147483648)) (K := fun σ2 => gd (bM (σ2.2.2 0 4)) (bd (f_X0_measure (σ2.2.2 0 4) (I q) σ2) fun _ σ4 => some (σ4.1 10 0, σ4))) (K' := fun σ3 => bd (f_X7_boundOf (I q) σ3) fun r4 σ5 => bd (f_X7_good r4 σ5) fun r6 σ7 => (f_X7_bound_33 r6 σ7)) (Rf := f_X7_refusedLow)
    hG hq (by omega) (by omega) (fun _ => rfl) (fun c τ => refL) (fun _ _ q1 q2 σ2 τ3 hM hm => by
      obtain ⟨σ', τ', x, y, e1, e2, e3, e4, e5, e6, e7, e8, e9⟩ := bound2 m10 hM (show 0 ≤ q by omega) q2
      exact ⟨x, σ', τ', by rw [hm, bm, gd_t, e1, bd_s, e3], by rw [e2, bd_s]; rfl, e7, e8⟩)
  exact ⟨x, σ', τ', k1, k2, ⟨m, V, E, pres, kp, d, p, L, W, dl, pl, et, b, t, s, rd, h, n, g, GA_B k3 (by omega)⟩, k4⟩
theorem m_margin (x : Int32) : MT (f_X6_margin x) (f_X7_margin x) := by
  intro σ τ B ⟨m, V, E, pres, kp, d, p, L, W, dl, pl, et, b, t, s, rd, h, n, g, hG⟩ hB
  obtain ⟨q, rfl, hq⟩ := argI x
  obtain ⟨bm, m10, m63⟩ := bMm hG.1
  obtain ⟨x, σ', τ', k1, k2, k3, k4⟩ := amt_ok (a := 1) (a' := 1) (low := I (-2147483648)) (K := fun σ2 => gd (bM (σ2.2.2 0 4)) (bd (f_X0_measure (σ2.2.2 0 4) (I q) σ2) fun _ σ4 => some (σ4.1 10 1, σ4))) (K' := fun σ3 => bd (f_X7_boundOf (I q) σ3) fun r4 σ5 => bd (f_X7_good (σ5.1 102 39) σ5) fun r6 σ7 => some (r6, σ7)) (Rf := f_X7_refusedLow)
    hG hq (by omega) (by omega) (fun _ => rfl) (fun c τ => refL) (fun _ _ q1 q2 σ2 τ3 hM hm => by
      obtain ⟨σ', τ', x, y, e1, e2, e3, e4, e5, e6, e7, e8, e9⟩ := bound2 m10 hM (show 0 ≤ q by omega) q2
      exact ⟨y, σ', τ', by rw [hm, bm, gd_t, e1, bd_s, e4], by rw [e2, bd_s, e5], e7, e8⟩)
  exact ⟨x, σ', τ', k1, k2, ⟨m, V, E, pres, kp, d, p, L, W, dl, pl, et, b, t, s, rd, h, n, g, GA_B k3 (by omega)⟩, k4⟩
theorem m_gap (x : Int32) : MT (f_X6_gap x) (f_X7_gap x) := by
  intro σ τ B ⟨m, V, E, pres, kp, d, p, L, W, dl, pl, et, b, t, s, rd, h, n, g, hG⟩ hB
  obtain ⟨q, rfl, hq⟩ := argI x
  obtain ⟨bm, m10, m63⟩ := bMm hG.1
  obtain ⟨x, σ', τ', k1, k2, k3, k4⟩ := amt_ok (a := 1) (a' := 1) (low := I (-1)) (K := fun σ2 => gd (bM (σ2.2.2 0 4)) (bd (f_X1_choose (σ2.2.2 0 4) (I q) (I (-1)) σ2) fun _ σ4 => gd (bM (σ4.2.2 0 4)) (bd (f_X0_measure (σ4.2.2 0 4) (σ4.1 4 0) σ4) fun _ σ6 => some ((σ6.1 4 1) - (σ6.1 10 0), σ6)))) (K' := fun σ3 => bd (f_X7_laysBest (I q) (I (-1)) σ3) fun _ σ4 => bd (f_X7_boundOf (σ4.1 102 37) σ4) fun r5 σ6 => bd (f_X7_good ((σ4.1 102 38) - r5) σ6) fun r7 σ8 => some (r7, σ8)) (Rf := f_X7_refused)
    hG hq (by omega) (by omega) (fun _ => rfl) (fun c τ => refR) (fun _ _ q1 q2 σ2 τ3 hM hm => by
      obtain ⟨σ1, τ1, U, C, sh, e1, e2, e3, ⟨e4, e4'⟩, ⟨e5, e5'⟩, e7, e8, e9, e10⟩ := best2 (but := -1) m10 hM (show 0 ≤ q by omega) q2 (by unfold R; omega)
      obtain ⟨σ', τ', x, y, f1, f2, f3, f4, f5, f6, f7, f8, f9⟩ := bound2 (q := (U : Int)) m10 e10 (by omega) (by omega)
      have hm1 : σ1.2.2 0 4 = m := by rw [e8.2]; exact hm
      exact ⟨C - x, σ', τ', by rw [hm, bm, gd_t, e1, bd_s, hm1, bm, gd_t, e4, f1, bd_s, f6 4 (by decide), e5, f3], by rw [e2, bd_s, e4', f2, bd_s, e5'], QF_trans e8 f7, RQ_trans e9 f8⟩)
  exact ⟨x, σ', τ', k1, k2, ⟨m, V, E, pres, kp, d, p, L, W, dl, pl, et, b, t, s, rd, h, n, g, GA_B k3 (by omega)⟩, k4⟩
theorem m_worth (x y : Int32) : MT (f_X6_worth x y) (f_X7_worth x y) := by
  intro σ τ B ⟨m, V, E, pres, kp, d, p, L, W, dl, pl, et, b, t, s, rd, h, n, g, hG⟩ hB
  obtain ⟨q, rfl, hq⟩ := argI x
  obtain ⟨v, rfl, hv⟩ := argI y
  obtain ⟨bm, m10, m63⟩ := bMm hG.1
  obtain ⟨x, σ', τ', k1, k2, k3, k4⟩ := amtv_ok (v := v) (low := I (-1)) (K := fun σ4 => gd (bM (σ4.2.2 0 4)) (bd (f_X1_choose (σ4.2.2 0 4) (I q) (I (-1)) σ4) fun _ σ6 => gd (bM (σ6.2.2 0 4)) (bd (f_X1_choose (σ6.2.2 0 4) (I q) (I v) σ6) fun _ σ8 => if (σ6.1 4 0) ≤ (σ8.1 4 0) then (f_X6_worth_84 ((σ8.1 4 1) - (σ6.1 4 1)) σ8) else (f_X6_worth_84 (I (-2)) σ8)))) (K' := fun σ5 => bd (f_X7_laysBest (I q) (I (-1)) σ5) fun _ σ6 => bd (f_X7_laysBest (I q) (I v) σ6) fun _ σ7 => if (σ6.1 102 37) ≤ (σ7.1 102 37) then (f_X7_worth_72 ((σ7.1 102 38) - (σ6.1 102 38)) σ7) else (f_X7_worth_72 (I (-2)) σ7)) (Rf := f_X7_refused)
    hG hq hv (fun c τ => refR) (fun _ v0 v1 q1 q2 σ2 τ3 hM hm => by
      obtain ⟨σ1, τ1, U, C, sh, e1, e2, e3, ⟨e4, e4'⟩, ⟨e5, e5'⟩, e7, e8, e9, e10⟩ := best2 (but := -1) m10 hM (show 0 ≤ q by omega) q2 (by unfold R; omega)
      obtain ⟨σ', τ', U', C', sh', f1, f2, f3, ⟨f4, f4'⟩, ⟨f5, f5'⟩, f7, f8, f9, f10⟩ := best2 (but := v) m10 e10 (show 0 ≤ q by omega) q2 hv
      have hm1 : σ1.2.2 0 4 = m := by rw [e8.2]; exact hm
      by_cases c : I (U : Int) ≤ I (U' : Int)
      · exact ⟨C' - C, σ', τ', by rw [hm, bm, gd_t, e1, bd_s, hm1, bm, gd_t, f1, bd_s, e4, f4, if_pos c, e5, f5]; rfl, by rw [e2, bd_s, f2, bd_s, e4', f4', if_pos c, e5', f5']; rfl, QF_trans e8 f8, RQ_trans e9 f9⟩
      · exact ⟨I (-2), σ', τ', by rw [hm, bm, gd_t, e1, bd_s, hm1, bm, gd_t, f1, bd_s, e4, f4, if_neg c]; rfl, by rw [e2, bd_s, f2, bd_s, e4', f4', if_neg c]; rfl, QF_trans e8 f8, RQ_trans e9 f9⟩)
  exact ⟨x, σ', τ', k1, k2, ⟨m, V, E, pres, kp, d, p, L, W, dl, pl, et, b, t, s, rd, h, n, g, GA_B k3 (by omega)⟩, k4⟩
theorem m_fewest (x : Int32) : MT (f_X6_fewest x) (f_X7_fewest x) := by
  intro σ τ B ⟨m, V, E, pres, kp, d, p, L, W, dl, pl, et, b, t, s, rd, h, n, g, hG⟩ hB
  obtain ⟨q, rfl, hq⟩ := argI x
  obtain ⟨bm, m10, m63⟩ := bMm hG.1
  obtain ⟨x, σ', τ', k1, k2, k3, k4⟩ := amt_ok (a := 1) (a' := 1) (low := I (-1)) (K := fun σ2 => gd (bM (σ2.2.2 0 4)) (bd (f_X1_fewestVenues (σ2.2.2 0 4) (I q) σ2) fun r4 σ5 => some (r4, σ5))) (K' := fun σ3 => r_few (I q) σ3) (Rf := f_X7_refused)
    hG hq (by omega) (by omega) (fun _ => rfl) (fun c τ => refR) (fun _ _ q1 q2 σ2 τ3 hM hm => by
      obtain ⟨n, hn, n1⟩ := nat_of (show 0 ≤ q by omega) q2
      obtain ⟨σ', a1, a2, a3⟩ := cFewest (q := n) m10 hM.1 (QM_p hM) n1 hM.2.1 hM.2.2.2.1.1
      obtain ⟨τ', b1, b2, b3⟩ := rFewest (q := n) hM.1 (QM_p hM) n1 hM.2.2.1 hM.2.2.2.1.2.1
      rw [← hn] at a1 b1
      exact ⟨_, σ', τ', by rw [hm, bm, gd_t, a1, bd_s], b1, ⟨fun k hk => a2 k (by omega), a3⟩, ⟨fun k _ hk => b2 k (by omega), fun i _ => by rw [b2 102 (by decide)], b3⟩⟩)
  exact ⟨x, σ', τ', k1, k2, ⟨m, V, E, pres, kp, d, p, L, W, dl, pl, et, b, t, s, rd, h, n, g, GA_B k3 (by omega)⟩, k4⟩
end
section
/-! PURE: greedy; what is asked of the split and its venues -/
theorem m_greedy (x y : Int32) : MT (f_X6_greedy x y) (f_X7_greedy x y) := by
  intro σ τ B ⟨m, V, E, pres, kp, d, p, L, W, dl, pl, et, b, t, s, rd, h, n, g, hG⟩ hB
  obtain ⟨q, rfl, hq⟩ := argI x
  obtain ⟨w, rfl, hw⟩ := argI y
  obtain ⟨bm, m10, m63⟩ := bMm hG.1
  have c1 := cWithin (σ := σ) (lo := 0) (hi := 2) hw (by unfold R; omega) (by unfold R; omega)
  have c2 := rIn (σ := wi τ 102 0 (0 : Int32)) (lo := 0) (hi := 2) hw (by unfold R; omega) (by unfold R; omega)
  obtain ⟨x, σ', τ', k1, k2, k3, k4⟩ := amt_ok (a := bn (decide (0 ≤ w ∧ w ≤ 2))) (a' := bn (decide (0 ≤ w ∧ w ≤ 2))) (low := I (-2147483648)) (K := fun σ4 => gd (bM (σ4.2.2 0 4)) (bd (f_X1_chooseGreedily (σ4.2.2 0 4) (I q) σ4) fun _ σ6 => if I w = (0 : Int32) then (some (σ6.1 4 1, σ6)) else (if I w = (1 : Int32) then (some (σ6.1 4 0, σ6)) else (gd (bM (σ6.2.2 0 4)) (bd (f_X1_venuesUsed (σ6.2.2 0 4) σ6) fun r8 σ9 => some (r8, σ9)))))) (K' := fun σ5 => f_X7_greedy_30 FU (I q) (I w) (0 : Int32) σ5) (Rf := f_X7_refusedLow)
    hG hq (bn_bnd _) (bn_bnd _) (fun _ => rfl) (fun c τ => refL) (fun _ hw1 q1 q2 σ2 τ3 hM hm => by
      have w02 : 0 ≤ w ∧ w ≤ 2 := by
        by_cases c : 0 ≤ w ∧ w ≤ 2
        · exact c
        · rw [decide_eq_false c, bn_f] at hw1; omega
      obtain ⟨n, hn, n1⟩ := nat_of (show 0 ≤ q by omega) q2
      obtain ⟨σ', a1, a2, a3, a4, a5, a6⟩ := cGreedy (q := n) m10 hM.1 (QM_p hM) n1 hM.2.1 hM.2.2.2.1.1
      obtain ⟨τ', b1, b2, b3⟩ := r_g0 (q := n) (what := w) hM.1 (QM_p hM) n1 w02 5 0 FU 0 τ3 rfl rfl (by decide) hM.2.2.1 hM.2.2.2.1.2.1 (fun w hw => absurd hw (by omega))
      have hm' : σ'.2.2 0 4 = m := by rw [a6]; exact hm
      have gb := gr_GB (p := p) (q := n) hM.1 120 (fun _ => 0) (n : Int) (GB_0 n1)
      have h5 := hM.1.1
      have cu := c_used (σ := σ') (m := m) (d := d) (a := (gr d p V 120 (fun _ => 0) (n : Int)).1) (by rw [a5 m (by omega)]; exact hM.2.1.1) h5 a4 (fun v hv => by have := gb.2.2 v hv; have := gb.1; omega) V 0 FU 0 0 rfl (by omega) (by show _ < 6000; omega)
      rw [← hn] at a1 b1
      have rq : RQ τ3 τ' := ⟨fun k _ hk => b2 k (by omega), fun i _ => by rw [b2 102 (by decide)], b3⟩
      have qf : QF σ2 σ' := ⟨fun k hk => a5 k (by omega), a6⟩
      rcases (show w = 0 ∨ w = 1 ∨ w = 2 by omega) with c | c | c
      · rw [if_pos c] at b1
        refine ⟨_, σ', τ', ?_, b1, qf, rq⟩
        show gd (bM (σ2.2.2 0 4)) (bd (f_X1_chooseGreedily (σ2.2.2 0 4) (I q) σ2) _) = _
        rw [hm, bm, gd_t, a1, bd_s, c, if_pos (show I 0 = (0 : Int32) from rfl), a3, hn]
      · rw [if_neg (by omega), if_pos c] at b1
        refine ⟨_, σ', τ', ?_, b1, qf, rq⟩
        show gd (bM (σ2.2.2 0 4)) (bd (f_X1_chooseGreedily (σ2.2.2 0 4) (I q) σ2) _) = _
        rw [hm, bm, gd_t, a1, bd_s, c, if_neg (by decide), if_pos (show I 1 = (1 : Int32) from rfl), a2, hn]
      · rw [if_neg (by omega), if_neg (by omega)] at b1
        refine ⟨_, σ', τ', ?_, b1, qf, rq⟩
        show gd (bM (σ2.2.2 0 4)) (bd (f_X1_chooseGreedily (σ2.2.2 0 4) (I q) σ2) _) = _
        rw [hm, bm, gd_t, a1, bd_s, c, if_neg (by decide), if_neg (by decide), hm', bm, gd_t]
        unfold f_X1_venuesUsed
        rw [show (0 : Int32) = I 0 from rfl] at cu ⊢
        rw [cu, bd_s, hn])
  refine ⟨x, σ', τ', ?_, ?_, ⟨m, V, E, pres, kp, d, p, L, W, dl, pl, et, b, t, s, rd, h, n, g, GA_B k3 (by omega)⟩, k4⟩
  · unfold f_X6_greedy
    rw [show (2 : Int32) = I 2 from rfl, show (0 : Int32) = I 0 from rfl, c1, bd_s]
    exact k1
  · unfold f_X7_greedy
    rw [nm_W, show (2 : Int32) = I 2 from rfl]
    show bd (f_X7_in (I w) (I 0) (I 2) (wi τ 102 0 (0 : Int32))) _ = _
    rw [c2, bd_s]
    exact k2
/-- any call that is granted or refused, and changes nothing else -/
theorem grq_ok {m V E : Nat} {σ τ : Wd} {pres kp : Bool} {d : MD} {p L W : Int} {dl pl et : Nat → Int} {b : Bool} {t s rd : Int} {h n g : Nat → Int} {B a nn ss : Int} {low : Int32} {K : Wd → Option (Int32 × Wd)} {fr : Wd → Option (Int32 × Wd)}
    (hG : GA m σ τ V E pres kp d p L W dl pl et b t s rd h n g B) (ha : 0 ≤ a ∧ a ≤ 1) (hn : 0 ≤ nn ∧ nn ≤ 1) (hs : 0 ≤ ss ∧ ss ≤ 1)
    (hr0 : tc pres a nn ss ≠ 0 → fr τ = some (low, wi (wi (wi τ 102 0 (I 0)) 102 1 (I (tc pres a nn ss))) 102 2 (I (-1))))
    (hr1 : pres = true → a = 1 → nn = 1 → ss = 1 → QM m (wi σ 0 12 (I 0)) (wi τ 102 0 (I 0)) V d p L W dl pl → QR 63 (wi σ 0 12 (I 0)) (wi τ 102 0 (I 0)) b t s → ∃ (x : Int32) (σ' τ4 : Wd), K (wi σ 0 12 (I 0)) = some (x, σ') ∧ fr τ = bd (f_X7_good x τ4) (fun r s => some (r, s)) ∧ QF (wi σ 0 12 (I 0)) σ' ∧ RQ (wi τ 102 0 (I 0)) τ4) :
    ∃ (x : Int32) (σ' τ' : Wd), (bd (f_X6_granted (I a) (I nn) (I ss) σ) fun r1 σ2 => if r1 = 0 then some (low, σ2) else K σ2) = some (x, σ') ∧ fr τ = some (x, τ') ∧ GA m σ' τ' V E pres kp d p L W dl pl et b t s rd h n g B ∧ CL_ σ σ' ∧ RL_ τ τ' := by
  have hG0 := hG
  obtain ⟨g1, g2, ⟨g3, g4⟩, ⟨g5, g6, g7⟩, -⟩ := hG0
  obtain ⟨bm, m10, m63⟩ := bMm g1
  have e1 := cGrant (σ := σ) g5 ha hn hs
  have cb := tc_b (pres := pres) (a := a) (n := nn) (s := ss)
  by_cases c0 : tc pres a nn ss = 0
  · obtain ⟨x1, x2, x3, x4⟩ := tc_0 c0
    rw [c0] at e1
    rw [e1, bd_s]
    have M2 : QM m (wi σ 0 12 (I 0)) (wi τ 102 0 (I 0)) V d p L W dl pl := QM_rows g3.1 (fun k a1 a2 => wi_row (by omega)) (fun i a1 a2 => wi_ne (by omega)) (wi_row (by decide)) (wi_row (by decide)) (fun i _ => by rw [wi_row (by decide)])
    have R2 : QR 63 (wi σ 0 12 (I 0)) (wi τ 102 0 (I 0)) b t s := QR_rows g3.2.2.1 (fun i _ => by rw [wi_row (by decide)]) (fun i _ _ => by rw [wi_row (by decide)]) (by rw [wi_row (by decide), wi_row (by decide)]; exact g3.2.2.1.2.2.2.2.2.2)
    obtain ⟨x, σ', τ4, k1, k2, ⟨k3, k4⟩, ⟨k5, k6, k7⟩⟩ := hr1 x1 (by omega) (by omega) (by omega) M2 R2
    refine ⟨x, σ', wi (wi τ4 102 1 (I 0)) 102 2 (I (-1)), ?_, ?_, ?_, ⟨fun k hk => by rw [k3 k (by omega), wi_row (by omega)], by rw [k4, wi_2]⟩, ⟨fun k hk => by rw [wi_row (by omega), wi_row (by omega), k5 k (by omega) (by omega), wi_row (by omega)], by rw [wi_2, wi_2, k7, wi_2]⟩⟩
    · rw [decide_eq_true rfl, bn_t, if_neg (by decide)]
      exact k1
    · rw [k2, goodR]
      rfl
    · exact GA_q (c := 0) hG (fun k a1 a2 => by rw [k3 k a2, wi_row a1]) (fun i a1 => by rw [k3 0 (by decide), wi_ne a1]) (by rw [k4, wi_2]) (fun k a1 a2 => by rw [wi_row a1, wi_row a1, k5 k a1 a2, wi_row a1]) (fun i a1 a2 => by rw [wi_ne (by omega), wi_ne (by omega), k6 i a2, wi_ne (by omega)]) (by rw [k3 0 (by decide), wi_eq]) (by rw [wi_ne (by decide), wi_eq]) wi_eq (by omega)
  · rw [e1, bd_s]
    refine ⟨low, wi σ 0 12 (I (tc pres a nn ss)), _, ?_, hr0 c0, ?_, ⟨fun k hk => by rw [wi_row (by omega)], by rw [wi_2]⟩, ⟨fun k hk => by rw [wi_row (by omega), wi_row (by omega), wi_row (by omega)], by rw [wi_2, wi_2, wi_2]⟩⟩
    · rw [decide_eq_false c0, bn_f, if_pos (show I 0 = (0 : Int32) from rfl)]
    · exact GA_q (c := tc pres a nn ss) hG (fun k a1 a2 => wi_row a1) (fun i a1 => wi_ne a1) wi_2 (fun k a1 a2 => by rw [wi_row a1, wi_row a1, wi_row a1]) (fun i a1 a2 => by rw [wi_ne (by omega), wi_ne (by omega), wi_ne (by omega)]) wi_eq (by rw [wi_ne (by decide), wi_eq]) wi_eq cb
/-- what tc says, by cases -/
theorem tc_cases {pres : Bool} {a n s : Int} : (pres = false ∧ tc pres a n s = 1) ∨ (pres = true ∧ a = 0 ∧ tc pres a n s = 1) ∨ (pres = true ∧ a ≠ 0 ∧ n = 0 ∧ tc pres a n s = 2) ∨ (pres = true ∧ a ≠ 0 ∧ n ≠ 0 ∧ s = 0 ∧ tc pres a n s = 5) ∨ (pres = true ∧ a ≠ 0 ∧ n ≠ 0 ∧ s ≠ 0 ∧ tc pres a n s = 0) := by
  cases pres with
  | false => exact Or.inl ⟨rfl, by unfold tc; rw [if_pos (Or.inl rfl)]⟩
  | true =>
    refine Or.inr ?_
    by_cases c1 : a = 0
    · exact Or.inl ⟨rfl, c1, by unfold tc; rw [if_pos (Or.inr c1)]⟩
    · have h1 : ¬ (true = false ∨ a = 0) := fun q => by
        rcases q with q | q
        · cases q
        · exact c1 q
      refine Or.inr ?_
      by_cases c2 : n = 0
      · exact Or.inl ⟨rfl, c1, c2, by unfold tc; rw [if_neg h1, if_pos c2]⟩
      · refine Or.inr ?_
        by_cases c3 : s = 0
        · exact Or.inl ⟨rfl, c1, c2, c3, by unfold tc; rw [if_neg h1, if_neg c2, if_pos c3]⟩
        · exact Or.inr ⟨rfl, c1, c2, c3, by unfold tc; rw [if_neg h1, if_neg c2, if_neg c3]⟩
theorem m_about (x : Int32) : MT (f_X6_about x) (f_X7_about x) := by
  intro σ τ B ⟨m, V, E, pres, kp, d, p, L, W, dl, pl, et, b, t, s, rd, h, n, g, hG⟩ hB
  obtain ⟨w, rfl, hw⟩ := argI x
  obtain ⟨bm, m10, m63⟩ := bMm hG.1
  have hG' := hG
  obtain ⟨g1, g2, ⟨g3, g4⟩, ⟨g5, g6, g7⟩, -⟩ := hG'
  have hE := g3.2.1
  have c1 := cWithin (σ := σ) (lo := 0) (hi := 4) hw (by unfold R; omega) (by unfold R; omega)
  have w35 : Int.toNat 35 = 35 := rfl
  have hwR := hw
  unfold R at hwR
  obtain ⟨y, hy⟩ : ∃ y, y = bn pres := ⟨_, rfl⟩
  have yb := bn_bnd pres
  rw [← hy] at yb
  have g6' : τ.1 102 21 = I y := by rw [hy]; exact g6
  obtain ⟨x, σ', τ', k1, k2, k3, k4⟩ := grq_ok (a := bn (decide (0 ≤ w ∧ w ≤ 4))) (nn := 1) (ss := 1) (low := I (-1)) (K := fun σ4 => if I w = (0 : Int32) then (gd (bM (σ4.2.2 0 4)) (some (σ4.1 (σ4.2.2 0 4) 0, σ4))) else (if I w = (1 : Int32) then (gd (bM (σ4.2.2 0 4)) (some (σ4.1 (σ4.2.2 0 4) 1, σ4))) else (if I w = (2 : Int32) then (gd (bM (σ4.2.2 0 4)) (some (σ4.1 (σ4.2.2 0 4) 2, σ4))) else (if I w = (3 : Int32) then (gd (bM (σ4.2.2 0 4)) (some (σ4.1 (σ4.2.2 0 4) 3, σ4))) else (gd (bM (σ4.2.2 0 4)) (some (σ4.1 (σ4.2.2 0 4) 4, σ4))))))) (fr := f_X7_about (I w))
    hG (bn_bnd _) (by omega) (by omega)
    (fun hc => by
      rcases tc_cases (pres := pres) (a := bn (decide (0 ≤ w ∧ w ≤ 4))) (n := 1) (s := 1) with ⟨q1, q2⟩ | ⟨q1, q2, q3⟩ | ⟨-, -, q2, -⟩ | ⟨-, -, -, q2, -⟩ | ⟨-, -, -, -, q2⟩
      · rw [q2]
        have y0 : y = 0 := by rw [hy, q1]; rfl
        unfold f_X7_about
        simp (disch := omega) only [↓reduceIte, gd_t, bd_s, nm_W, nm_I, I_add, I_sub, I_mul, I_neg, I_le_t, I_le_f, I_lt_t, I_lt_f, I_eq_t, I_eq_f, I_inb', I_ix', Int.toNat_natCast, decide_true, decide_false, Bool.not_false, Bool.not_true, if_true, if_false, wi_eq, wi_eq', wi_ne, wi_row, wi_2, N0, N1, N2, N3, N4, N5, N6, N7, N8, N9, N10, N11, N12, N13, N14, N15, N16, N17, N18, N19, N20, N21, N22, N23, N24, N25, N26, N27, N28, N29, N30, N31, N32, N33, N34, N35, N36, N37, N38, N39, N40, N41, N42, N43, N45, N48, N57, N59, N88, N89, N97, N99, N120, N121, N122, N179, N200, N255, N300, N400, N880, N900, N999, N1019, N50000000, N100000000, N1000000000, N2147483647, N2147483648, g6', refR]
      · rw [q3]
        have y1 : y = 1 := by rw [hy, q1]; rfl
        have wn : w < 0 ∨ 4 < w := by
          by_cases c : 0 ≤ w ∧ w ≤ 4
          · rw [decide_eq_true c] at q2; cases q2
          · omega
        unfold f_X7_about
        rcases wn with wn | wn
        · simp (disch := omega) only [↓reduceIte, gd_t, bd_s, nm_W, nm_I, I_add, I_sub, I_mul, I_neg, I_le_t, I_le_f, I_lt_t, I_lt_f, I_eq_t, I_eq_f, I_inb', I_ix', Int.toNat_natCast, decide_true, decide_false, Bool.not_false, Bool.not_true, if_true, if_false, wi_eq, wi_eq', wi_ne, wi_row, wi_2, N0, N1, N2, N3, N4, N5, N6, N7, N8, N9, N10, N11, N12, N13, N14, N15, N16, N17, N18, N19, N20, N21, N22, N23, N24, N25, N26, N27, N28, N29, N30, N31, N32, N33, N34, N35, N36, N37, N38, N39, N40, N41, N42, N43, N45, N48, N57, N59, N88, N89, N97, N99, N120, N121, N122, N179, N200, N255, N300, N400, N880, N900, N999, N1019, N50000000, N100000000, N1000000000, N2147483647, N2147483648, g6', refR]
        · simp (disch := omega) only [↓reduceIte, gd_t, bd_s, nm_W, nm_I, I_add, I_sub, I_mul, I_neg, I_le_t, I_le_f, I_lt_t, I_lt_f, I_eq_t, I_eq_f, I_inb', I_ix', Int.toNat_natCast, decide_true, decide_false, Bool.not_false, Bool.not_true, if_true, if_false, wi_eq, wi_eq', wi_ne, wi_row, wi_2, N0, N1, N2, N3, N4, N5, N6, N7, N8, N9, N10, N11, N12, N13, N14, N15, N16, N17, N18, N19, N20, N21, N22, N23, N24, N25, N26, N27, N28, N29, N30, N31, N32, N33, N34, N35, N36, N37, N38, N39, N40, N41, N42, N43, N45, N48, N57, N59, N88, N89, N97, N99, N120, N121, N122, N179, N200, N255, N300, N400, N880, N900, N999, N1019, N50000000, N100000000, N1000000000, N2147483647, N2147483648, g6', refR]
      · omega
      · omega
      · exact absurd q2 hc)
    (fun hp ha _ _ hM hR => by
      have y1 : y = 1 := by rw [hy, hp]; rfl
      have w04 : 0 ≤ w ∧ w ≤ 4 := by
        by_cases c : 0 ≤ w ∧ w ≤ 4
        · exact c
        · rw [decide_eq_false c, bn_f] at ha; omega
      have hm : (wi σ 0 12 (I 0)).2.2 0 4 = m := g2
      have a0 := hM.2.2.2.2.2.1.1
      have b0 := g3.1.2.2.2.2.2.1.2.1
      have a1 := hM.2.2.2.1.1
      have b1 := g3.1.2.2.2.1.2.1
      have a2 := hM.2.2.2.2.1.1
      have b2 := g3.1.2.2.2.2.1.2.1
      have a3 := hM.2.1.1
      have b3 := g3.1.2.2.1.1
      have a4 : (wi σ 0 12 (I 0)).1 m 4 = I (E : Int) := by rw [wi_row (by omega)]; exact hE.2.1
      have b4 := hE.2.2.1
      clear hM hR hE g3 hG
      have rf : RQ (wi τ 102 0 (I 0)) (wi τ 102 0 (I 0)) := ⟨fun _ _ _ => rfl, fun _ _ => rfl, rfl⟩
      have qf : QF (wi σ 0 12 (I 0)) (wi σ 0 12 (I 0)) := ⟨fun _ _ => rfl, rfl⟩
      obtain ⟨σ2, hσ2⟩ : ∃ s, s = wi σ 0 12 (I 0) := ⟨_, rfl⟩
      rw [← hσ2] at hm a0 a1 a2 a3 a4 qf ⊢
      rcases (show w = 0 ∨ w = 1 ∨ w = 2 ∨ w = 3 ∨ w = 4 by omega) with c | c | c | c | c
      · refine ⟨I W, σ2, wi τ 102 0 (I 0), ?_, ?_, qf, rf⟩
        · simp (disch := omega) only [↓reduceIte, gd_t, bd_s, nm_W, nm_I, I_add, I_sub, I_mul, I_neg, I_le_t, I_le_f, I_lt_t, I_lt_f, I_eq_t, I_eq_f, I_inb', I_ix', Int.toNat_natCast, decide_true, decide_false, Bool.not_false, Bool.not_true, if_true, if_false, wi_eq, wi_eq', wi_ne, wi_row, wi_2, N0, N1, N2, N3, N4, N5, N6, N7, N8, N9, N10, N11, N12, N13, N14, N15, N16, N17, N18, N19, N20, N21, N22, N23, N24, N25, N26, N27, N28, N29, N30, N31, N32, N33, N34, N35, N36, N37, N38, N39, N40, N41, N42, N43, N45, N48, N57, N59, N88, N89, N97, N99, N120, N121, N122, N179, N200, N255, N300, N400, N880, N900, N999, N1019, N50000000, N100000000, N1000000000, N2147483647, N2147483648, hm, bm, a0]
        · unfold f_X7_about
          simp (disch := omega) only [↓reduceIte, gd_t, bd_s, nm_W, nm_I, I_add, I_sub, I_mul, I_neg, I_le_t, I_le_f, I_lt_t, I_lt_f, I_eq_t, I_eq_f, I_inb', I_ix', Int.toNat_natCast, decide_true, decide_false, Bool.not_false, Bool.not_true, if_true, if_false, wi_eq, wi_eq', wi_ne, wi_row, wi_2, N0, N1, N2, N3, N4, N5, N6, N7, N8, N9, N10, N11, N12, N13, N14, N15, N16, N17, N18, N19, N20, N21, N22, N23, N24, N25, N26, N27, N28, N29, N30, N31, N32, N33, N34, N35, N36, N37, N38, N39, N40, N41, N42, N43, N45, N48, N57, N59, N88, N89, N97, N99, N120, N121, N122, N179, N200, N255, N300, N400, N880, N900, N999, N1019, N50000000, N100000000, N1000000000, N2147483647, N2147483648, g6', w35, b0]
      · refine ⟨I p, σ2, wi τ 102 0 (I 0), ?_, ?_, qf, rf⟩
        · simp (disch := omega) only [↓reduceIte, gd_t, bd_s, nm_W, nm_I, I_add, I_sub, I_mul, I_neg, I_le_t, I_le_f, I_lt_t, I_lt_f, I_eq_t, I_eq_f, I_inb', I_ix', Int.toNat_natCast, decide_true, decide_false, Bool.not_false, Bool.not_true, if_true, if_false, wi_eq, wi_eq', wi_ne, wi_row, wi_2, N0, N1, N2, N3, N4, N5, N6, N7, N8, N9, N10, N11, N12, N13, N14, N15, N16, N17, N18, N19, N20, N21, N22, N23, N24, N25, N26, N27, N28, N29, N30, N31, N32, N33, N34, N35, N36, N37, N38, N39, N40, N41, N42, N43, N45, N48, N57, N59, N88, N89, N97, N99, N120, N121, N122, N179, N200, N255, N300, N400, N880, N900, N999, N1019, N50000000, N100000000, N1000000000, N2147483647, N2147483648, hm, bm, a1]
        · unfold f_X7_about
          simp (disch := omega) only [↓reduceIte, gd_t, bd_s, nm_W, nm_I, I_add, I_sub, I_mul, I_neg, I_le_t, I_le_f, I_lt_t, I_lt_f, I_eq_t, I_eq_f, I_inb', I_ix', Int.toNat_natCast, decide_true, decide_false, Bool.not_false, Bool.not_true, if_true, if_false, wi_eq, wi_eq', wi_ne, wi_row, wi_2, N0, N1, N2, N3, N4, N5, N6, N7, N8, N9, N10, N11, N12, N13, N14, N15, N16, N17, N18, N19, N20, N21, N22, N23, N24, N25, N26, N27, N28, N29, N30, N31, N32, N33, N34, N35, N36, N37, N38, N39, N40, N41, N42, N43, N45, N48, N57, N59, N88, N89, N97, N99, N120, N121, N122, N179, N200, N255, N300, N400, N880, N900, N999, N1019, N50000000, N100000000, N1000000000, N2147483647, N2147483648, g6', b1]
      · refine ⟨I L, σ2, wi τ 102 0 (I 0), ?_, ?_, qf, rf⟩
        · simp (disch := omega) only [↓reduceIte, gd_t, bd_s, nm_W, nm_I, I_add, I_sub, I_mul, I_neg, I_le_t, I_le_f, I_lt_t, I_lt_f, I_eq_t, I_eq_f, I_inb', I_ix', Int.toNat_natCast, decide_true, decide_false, Bool.not_false, Bool.not_true, if_true, if_false, wi_eq, wi_eq', wi_ne, wi_row, wi_2, N0, N1, N2, N3, N4, N5, N6, N7, N8, N9, N10, N11, N12, N13, N14, N15, N16, N17, N18, N19, N20, N21, N22, N23, N24, N25, N26, N27, N28, N29, N30, N31, N32, N33, N34, N35, N36, N37, N38, N39, N40, N41, N42, N43, N45, N48, N57, N59, N88, N89, N97, N99, N120, N121, N122, N179, N200, N255, N300, N400, N880, N900, N999, N1019, N50000000, N100000000, N1000000000, N2147483647, N2147483648, hm, bm, a2]
        · unfold f_X7_about
          simp (disch := omega) only [↓reduceIte, gd_t, bd_s, nm_W, nm_I, I_add, I_sub, I_mul, I_neg, I_le_t, I_le_f, I_lt_t, I_lt_f, I_eq_t, I_eq_f, I_inb', I_ix', Int.toNat_natCast, decide_true, decide_false, Bool.not_false, Bool.not_true, if_true, if_false, wi_eq, wi_eq', wi_ne, wi_row, wi_2, N0, N1, N2, N3, N4, N5, N6, N7, N8, N9, N10, N11, N12, N13, N14, N15, N16, N17, N18, N19, N20, N21, N22, N23, N24, N25, N26, N27, N28, N29, N30, N31, N32, N33, N34, N35, N36, N37, N38, N39, N40, N41, N42, N43, N45, N48, N57, N59, N88, N89, N97, N99, N120, N121, N122, N179, N200, N255, N300, N400, N880, N900, N999, N1019, N50000000, N100000000, N1000000000, N2147483647, N2147483648, g6', b2]
      · refine ⟨I (V : Int), σ2, wi τ 102 0 (I 0), ?_, ?_, qf, rf⟩
        · simp (disch := omega) only [↓reduceIte, gd_t, bd_s, nm_W, nm_I, I_add, I_sub, I_mul, I_neg, I_le_t, I_le_f, I_lt_t, I_lt_f, I_eq_t, I_eq_f, I_inb', I_ix', Int.toNat_natCast, decide_true, decide_false, Bool.not_false, Bool.not_true, if_true, if_false, wi_eq, wi_eq', wi_ne, wi_row, wi_2, N0, N1, N2, N3, N4, N5, N6, N7, N8, N9, N10, N11, N12, N13, N14, N15, N16, N17, N18, N19, N20, N21, N22, N23, N24, N25, N26, N27, N28, N29, N30, N31, N32, N33, N34, N35, N36, N37, N38, N39, N40, N41, N42, N43, N45, N48, N57, N59, N88, N89, N97, N99, N120, N121, N122, N179, N200, N255, N300, N400, N880, N900, N999, N1019, N50000000, N100000000, N1000000000, N2147483647, N2147483648, hm, bm, a3]
        · unfold f_X7_about
          simp (disch := omega) only [↓reduceIte, gd_t, bd_s, nm_W, nm_I, I_add, I_sub, I_mul, I_neg, I_le_t, I_le_f, I_lt_t, I_lt_f, I_eq_t, I_eq_f, I_inb', I_ix', Int.toNat_natCast, decide_true, decide_false, Bool.not_false, Bool.not_true, if_true, if_false, wi_eq, wi_eq', wi_ne, wi_row, wi_2, N0, N1, N2, N3, N4, N5, N6, N7, N8, N9, N10, N11, N12, N13, N14, N15, N16, N17, N18, N19, N20, N21, N22, N23, N24, N25, N26, N27, N28, N29, N30, N31, N32, N33, N34, N35, N36, N37, N38, N39, N40, N41, N42, N43, N45, N48, N57, N59, N88, N89, N97, N99, N120, N121, N122, N179, N200, N255, N300, N400, N880, N900, N999, N1019, N50000000, N100000000, N1000000000, N2147483647, N2147483648, g6', b3]
      · refine ⟨I (E : Int), σ2, wi τ 102 0 (I 0), ?_, ?_, qf, rf⟩
        · simp (disch := omega) only [↓reduceIte, gd_t, bd_s, nm_W, nm_I, I_add, I_sub, I_mul, I_neg, I_le_t, I_le_f, I_lt_t, I_lt_f, I_eq_t, I_eq_f, I_inb', I_ix', Int.toNat_natCast, decide_true, decide_false, Bool.not_false, Bool.not_true, if_true, if_false, wi_eq, wi_eq', wi_ne, wi_row, wi_2, N0, N1, N2, N3, N4, N5, N6, N7, N8, N9, N10, N11, N12, N13, N14, N15, N16, N17, N18, N19, N20, N21, N22, N23, N24, N25, N26, N27, N28, N29, N30, N31, N32, N33, N34, N35, N36, N37, N38, N39, N40, N41, N42, N43, N45, N48, N57, N59, N88, N89, N97, N99, N120, N121, N122, N179, N200, N255, N300, N400, N880, N900, N999, N1019, N50000000, N100000000, N1000000000, N2147483647, N2147483648, hm, bm, a4]
        · unfold f_X7_about
          simp (disch := omega) only [↓reduceIte, gd_t, bd_s, nm_W, nm_I, I_add, I_sub, I_mul, I_neg, I_le_t, I_le_f, I_lt_t, I_lt_f, I_eq_t, I_eq_f, I_inb', I_ix', Int.toNat_natCast, decide_true, decide_false, Bool.not_false, Bool.not_true, if_true, if_false, wi_eq, wi_eq', wi_ne, wi_row, wi_2, N0, N1, N2, N3, N4, N5, N6, N7, N8, N9, N10, N11, N12, N13, N14, N15, N16, N17, N18, N19, N20, N21, N22, N23, N24, N25, N26, N27, N28, N29, N30, N31, N32, N33, N34, N35, N36, N37, N38, N39, N40, N41, N42, N43, N45, N48, N57, N59, N88, N89, N97, N99, N120, N121, N122, N179, N200, N255, N300, N400, N880, N900, N999, N1019, N50000000, N100000000, N1000000000, N2147483647, N2147483648, g6', b4])
  refine ⟨x, σ', τ', ?_, k2, ⟨m, V, E, pres, kp, d, p, L, W, dl, pl, et, b, t, s, rd, h, n, g, GA_B k3 (by omega)⟩, k4⟩
  unfold f_X6_about
  rw [show (0 : Int32) = I 0 from rfl, show (4 : Int32) = I 4 from rfl, c1, bd_s]
  exact k1
end
section
/-! PURE: charge, under, cost -/
theorem rIsV0 {τ : Wd} {V : Nat} {z x : Int} (hz : R z) (h21 : τ.1 102 21 = I x) (hx : 0 ≤ x ∧ x ≤ 1) (h14 : τ.1 102 14 = I (V : Int)) (hV : V ≤ 5) (hn : x = 0 ∨ ¬ (0 ≤ z ∧ z < (V : Int))) : f_X7_isVenue (I z) τ = some (I 0, τ) := by
  rw [rIsV hz h21 hx h14 hV, decide_eq_false (by omega), bn_f]
theorem rIsV1 {τ : Wd} {V : Nat} {z x : Int} (hz : R z) (h21 : τ.1 102 21 = I x) (hx : x = 1) (h14 : τ.1 102 14 = I (V : Int)) (hV : V ≤ 5) (h0 : 0 ≤ z) (h1 : z < (V : Int)) : f_X7_isVenue (I z) τ = some (I 1, τ) := by
  rw [rIsV hz h21 (by omega) h14 hV, decide_eq_true ⟨hx, h0, h1⟩, bn_t]
theorem bn_0 {P : Prop} {_i : Decidable P} (h : bn (decide P) = 0) : ¬ P := fun q => by
  rw [decide_eq_true q] at h
  cases h
theorem bn_1 {P : Prop} {_i : Decidable P} (h : bn (decide P) = 1) : P := by
  by_cases q : P
  · exact q
  · rw [decide_eq_false q] at h
    cases h
theorem bn_n0 {P : Prop} {_i : Decidable P} (h : bn (decide P) ≠ 0) : P := by
  by_cases q : P
  · exact q
  · rw [decide_eq_false q] at h
    exact absurd rfl h
theorem rIn1 {σ : Wd} {z lo hi : Int} (hz : R z) (hl : R lo) (hh : R hi) (h : lo ≤ z ∧ z ≤ hi) : f_X7_in (I z) (I lo) (I hi) σ = some (I 1, σ) := by rw [rIn hz hl hh, decide_eq_true h, bn_t]
theorem rIn0 {σ : Wd} {z lo hi : Int} (hz : R z) (hl : R lo) (hh : R hi) (h : ¬ (lo ≤ z ∧ z ≤ hi)) : f_X7_in (I z) (I lo) (I hi) σ = some (I 0, σ) := by rw [rIn hz hl hh, decide_eq_false h, bn_f]
def refW (τ : Wd) (c : Int32) : Wd := wi (wi (wi τ 102 0 (I 0)) 102 1 c) 102 2 (I (-1))
theorem charge_1 {τ : Wd} {v z : Int} (e : f_X7_isVenue (I v) (wi τ 102 0 (I 0)) = some (I 0, wi τ 102 0 (I 0))) : f_X7_charge (I v) (I z) τ = some (I (-2147483648), refW τ (I 1)) := by
  unfold f_X7_charge refW
  simp (disch := omega) only [↓reduceIte, gd_t, bd_s, nm_W, nm_I, I_add, I_sub, I_mul, I_neg, I_le_t, I_le_f, I_lt_t, I_lt_f, I_eq_t, I_eq_f, I_inb', I_ix', Int.toNat_natCast, decide_true, decide_false, Bool.not_false, Bool.not_true, if_true, if_false, wi_eq, wi_eq', wi_ne, wi_row, wi_2, N0, N1, N2, N3, N4, N5, N6, N7, N8, N9, N10, N11, N12, N13, N14, N15, N16, N17, N18, N19, N20, N21, N22, N23, N24, N25, N26, N27, N28, N29, N30, N31, N32, N33, N34, N35, N36, N37, N38, N39, N40, N41, N42, N43, N45, N48, N57, N59, N88, N89, N97, N99, N120, N121, N122, N179, N200, N255, N300, N400, N880, N900, N999, N1019, N50000000, N100000000, N1000000000, N2147483647, N2147483648, e, refL]
theorem charge_2 {τ : Wd} {v z : Int} (e : f_X7_isVenue (I v) (wi τ 102 0 (I 0)) = some (I 1, wi τ 102 0 (I 0))) (e2 : f_X7_in (I z) (I 0) (I 120) (wi τ 102 0 (I 0)) = some (I 0, wi τ 102 0 (I 0))) : f_X7_charge (I v) (I z) τ = some (I (-2147483648), refW τ (I 2)) := by
  unfold f_X7_charge refW
  simp (disch := omega) only [↓reduceIte, gd_t, bd_s, nm_W, nm_I, I_add, I_sub, I_mul, I_neg, I_le_t, I_le_f, I_lt_t, I_lt_f, I_eq_t, I_eq_f, I_inb', I_ix', Int.toNat_natCast, decide_true, decide_false, Bool.not_false, Bool.not_true, if_true, if_false, wi_eq, wi_eq', wi_ne, wi_row, wi_2, N0, N1, N2, N3, N4, N5, N6, N7, N8, N9, N10, N11, N12, N13, N14, N15, N16, N17, N18, N19, N20, N21, N22, N23, N24, N25, N26, N27, N28, N29, N30, N31, N32, N33, N34, N35, N36, N37, N38, N39, N40, N41, N42, N43, N45, N48, N57, N59, N88, N89, N97, N99, N120, N121, N122, N179, N200, N255, N300, N400, N880, N900, N999, N1019, N50000000, N100000000, N1000000000, N2147483647, N2147483648, e, e2, refL, f_X7_charge_47]
theorem charge_3 {τ : Wd} {v z x : Int} (e : f_X7_isVenue (I v) (wi τ 102 0 (I 0)) = some (I 1, wi τ 102 0 (I 0))) (e2 : f_X7_in (I z) (I 0) (I 120) (wi τ 102 0 (I 0)) = some (I 1, wi τ 102 0 (I 0))) (e3 : f_X7_chargeOf (I v) (I z) (wi τ 102 0 (I 0)) = some (I x, wi τ 102 0 (I 0))) : f_X7_charge (I v) (I z) τ = bd (f_X7_good (I x) (wi τ 102 0 (I 0))) (fun r s => some (r, s)) := by
  unfold f_X7_charge f_X7_charge_47
  simp (disch := omega) only [↓reduceIte, gd_t, bd_s, nm_W, nm_I, I_add, I_sub, I_mul, I_neg, I_le_t, I_le_f, I_lt_t, I_lt_f, I_eq_t, I_eq_f, I_inb', I_ix', Int.toNat_natCast, decide_true, decide_false, Bool.not_false, Bool.not_true, if_true, if_false, wi_eq, wi_eq', wi_ne, wi_row, wi_2, N0, N1, N2, N3, N4, N5, N6, N7, N8, N9, N10, N11, N12, N13, N14, N15, N16, N17, N18, N19, N20, N21, N22, N23, N24, N25, N26, N27, N28, N29, N30, N31, N32, N33, N34, N35, N36, N37, N38, N39, N40, N41, N42, N43, N45, N48, N57, N59, N88, N89, N97, N99, N120, N121, N122, N179, N200, N255, N300, N400, N880, N900, N999, N1019, N50000000, N100000000, N1000000000, N2147483647, N2147483648, e, e2, e3]
theorem under_1 {τ : Wd} {v z : Int} (e : f_X7_isVenue (I v) (wi τ 102 0 (I 0)) = some (I 0, wi τ 102 0 (I 0))) : f_X7_under (I v) (I z) τ = some (I (-1), refW τ (I 1)) := by
  unfold f_X7_under refW
  simp (disch := omega) only [↓reduceIte, gd_t, bd_s, nm_W, nm_I, I_add, I_sub, I_mul, I_neg, I_le_t, I_le_f, I_lt_t, I_lt_f, I_eq_t, I_eq_f, I_inb', I_ix', Int.toNat_natCast, decide_true, decide_false, Bool.not_false, Bool.not_true, if_true, if_false, wi_eq, wi_eq', wi_ne, wi_row, wi_2, N0, N1, N2, N3, N4, N5, N6, N7, N8, N9, N10, N11, N12, N13, N14, N15, N16, N17, N18, N19, N20, N21, N22, N23, N24, N25, N26, N27, N28, N29, N30, N31, N32, N33, N34, N35, N36, N37, N38, N39, N40, N41, N42, N43, N45, N48, N57, N59, N88, N89, N97, N99, N120, N121, N122, N179, N200, N255, N300, N400, N880, N900, N999, N1019, N50000000, N100000000, N1000000000, N2147483647, N2147483648, e, refR]
theorem under_2 {τ : Wd} {v z : Int} (e : f_X7_isVenue (I v) (wi τ 102 0 (I 0)) = some (I 1, wi τ 102 0 (I 0))) (e2 : f_X7_in (I z) (I 1) (I 999) (wi τ 102 0 (I 0)) = some (I 0, wi τ 102 0 (I 0))) : f_X7_under (I v) (I z) τ = some (I (-1), refW τ (I 2)) := by
  unfold f_X7_under refW
  simp (disch := omega) only [↓reduceIte, gd_t, bd_s, nm_W, nm_I, I_add, I_sub, I_mul, I_neg, I_le_t, I_le_f, I_lt_t, I_lt_f, I_eq_t, I_eq_f, I_inb', I_ix', Int.toNat_natCast, decide_true, decide_false, Bool.not_false, Bool.not_true, if_true, if_false, wi_eq, wi_eq', wi_ne, wi_row, wi_2, N0, N1, N2, N3, N4, N5, N6, N7, N8, N9, N10, N11, N12, N13, N14, N15, N16, N17, N18, N19, N20, N21, N22, N23, N24, N25, N26, N27, N28, N29, N30, N31, N32, N33, N34, N35, N36, N37, N38, N39, N40, N41, N42, N43, N45, N48, N57, N59, N88, N89, N97, N99, N120, N121, N122, N179, N200, N255, N300, N400, N880, N900, N999, N1019, N50000000, N100000000, N1000000000, N2147483647, N2147483648, e, e2, refR, f_X7_under_48]
theorem under_3 {τ : Wd} {v z x : Int} (e : f_X7_isVenue (I v) (wi τ 102 0 (I 0)) = some (I 1, wi τ 102 0 (I 0))) (e2 : f_X7_in (I z) (I 1) (I 999) (wi τ 102 0 (I 0)) = some (I 1, wi τ 102 0 (I 0))) (e3 : f_X7_unitsTo (I v) (I z) (wi τ 102 0 (I 0)) = some (I x, wi τ 102 0 (I 0))) : f_X7_under (I v) (I z) τ = bd (f_X7_good (I x) (wi τ 102 0 (I 0))) (fun r s => some (r, s)) := by
  unfold f_X7_under f_X7_under_48
  simp (disch := omega) only [↓reduceIte, gd_t, bd_s, nm_W, nm_I, I_add, I_sub, I_mul, I_neg, I_le_t, I_le_f, I_lt_t, I_lt_f, I_eq_t, I_eq_f, I_inb', I_ix', Int.toNat_natCast, decide_true, decide_false, Bool.not_false, Bool.not_true, if_true, if_false, wi_eq, wi_eq', wi_ne, wi_row, wi_2, N0, N1, N2, N3, N4, N5, N6, N7, N8, N9, N10, N11, N12, N13, N14, N15, N16, N17, N18, N19, N20, N21, N22, N23, N24, N25, N26, N27, N28, N29, N30, N31, N32, N33, N34, N35, N36, N37, N38, N39, N40, N41, N42, N43, N45, N48, N57, N59, N88, N89, N97, N99, N120, N121, N122, N179, N200, N255, N300, N400, N880, N900, N999, N1019, N50000000, N100000000, N1000000000, N2147483647, N2147483648, e, e2, e3]
theorem RQr {τ : Wd} : RQ τ τ := ⟨fun _ _ _ => rfl, fun _ _ => rfl, rfl⟩
theorem QFr {σ : Wd} : QF σ σ := ⟨fun _ _ => rfl, rfl⟩
theorem m_charge (x y : Int32) : MT (f_X6_charge x y) (f_X7_charge x y) := by
  intro σ τ B ⟨m, V, E, pres, kp, d, p, L, W, dl, pl, et, b, t, s, rd, h, n, g, hG⟩ hB
  obtain ⟨v, rfl, hv⟩ := argI x
  obtain ⟨z, rfl, hz⟩ := argI y
  obtain ⟨bm, m10, m63⟩ := bMm hG.1
  have h5 := hG.2.2.1.1.1.1.1
  have g21 : (wi τ 102 0 (I 0)).1 102 21 = I (bn pres) := by rw [wi_ne (by decide)]; exact hG.2.2.2.1.2.1
  have g14 : (wi τ 102 0 (I 0)).1 102 14 = I (V : Int) := by rw [wi_ne (by decide)]; exact hG.2.2.1.1.1.2.2.1.1
  have c1 := cIsV (σ := σ) hv hG.2.1 bm hG.2.2.1.1.1.2.1.1 h5
  have c2 := cWithin (σ := σ) (lo := 0) (hi := 120) hz (by unfold R; omega) (by unfold R; omega)
  obtain ⟨x, σ', τ', k1, k2, k3, k4⟩ := grq_ok (a := bn (decide (0 ≤ v ∧ v < (V : Int)))) (nn := bn (decide (0 ≤ z ∧ z ≤ 120))) (ss := 1) (low := I (-2147483648)) (K := fun σ6 => gd (bM (σ6.2.2 0 4)) (bd (f_X3_chargeOf (σ6.2.2 0 4) (I v) (I z) σ6) fun r8 σ9 => some (r8, σ9))) (fr := f_X7_charge (I v) (I z))
    hG (bn_bnd _) (bn_bnd _) (by omega)
    (fun hc => by
      rcases tc_cases (pres := pres) (a := bn (decide (0 ≤ v ∧ v < (V : Int)))) (n := bn (decide (0 ≤ z ∧ z ≤ 120))) (s := 1) with ⟨q1, q2⟩ | ⟨q1, q2, q3⟩ | ⟨q1, q2, q3, q4⟩ | ⟨-, -, -, q2, -⟩ | ⟨-, -, -, -, q2⟩
      · rw [q2]; exact charge_1 (rIsV0 hv g21 (bn_bnd _) g14 h5 (Or.inl (by rw [q1]; rfl)))
      · rw [q3]; exact charge_1 (rIsV0 hv g21 (bn_bnd _) g14 h5 (Or.inr (bn_0 q2)))
      · have y := bn_n0 q2
        rw [q4]; exact charge_2 (rIsV1 hv g21 (by rw [q1]; rfl) g14 h5 y.1 y.2) (rIn0 hz (by unfold R; omega) (by unfold R; omega) (bn_0 q3))
      · omega
      · exact absurd q2 hc)
    (fun hp ha hn _ hM hR => by
      have y := bn_1 ha
      have w := bn_1 hn
      obtain ⟨u, hu⟩ := Int.eq_ofNat_of_zero_le y.1
      have e1 := cCharge (v := u) (n := z) hM.2.1 hM.1 (by omega) (by omega) (by omega)
      have e2 := rCharge (v := u) (n := z) hM.2.2.1 hM.1 (by omega) (by omega) (by omega)
      rw [← hu] at e1 e2
      exact ⟨_, _, _, by rw [show (wi σ 0 12 (I 0)).2.2 0 4 = m from hG.2.1, bm, gd_t, e1, bd_s], charge_3 (rIsV1 hv g21 (by rw [hp]; rfl) g14 h5 y.1 y.2) (rIn1 hz (by unfold R; omega) (by unfold R; omega) w) e2, QFr, RQr⟩)
  refine ⟨x, σ', τ', ?_, k2, ⟨m, V, E, pres, kp, d, p, L, W, dl, pl, et, b, t, s, rd, h, n, g, GA_B k3 (by omega)⟩, k4⟩
  unfold f_X6_charge
  rw [c1, bd_s, show (0 : Int32) = I 0 from rfl, show (120 : Int32) = I 120 from rfl, c2, bd_s]
  exact k1
theorem m_under (x y : Int32) : MT (f_X6_under x y) (f_X7_under x y) := by
  intro σ τ B ⟨m, V, E, pres, kp, d, p, L, W, dl, pl, et, b, t, s, rd, h, n, g, hG⟩ hB
  obtain ⟨v, rfl, hv⟩ := argI x
  obtain ⟨z, rfl, hz⟩ := argI y
  obtain ⟨bm, m10, m63⟩ := bMm hG.1
  have h5 := hG.2.2.1.1.1.1.1
  have g21 : (wi τ 102 0 (I 0)).1 102 21 = I (bn pres) := by rw [wi_ne (by decide)]; exact hG.2.2.2.1.2.1
  have g14 : (wi τ 102 0 (I 0)).1 102 14 = I (V : Int) := by rw [wi_ne (by decide)]; exact hG.2.2.1.1.1.2.2.1.1
  have c1 := cIsV (σ := σ) hv hG.2.1 bm hG.2.2.1.1.1.2.1.1 h5
  have c2 := cWithin (σ := σ) (lo := 1) (hi := 999) hz (by unfold R; omega) (by unfold R; omega)
  obtain ⟨x, σ', τ', k1, k2, k3, k4⟩ := grq_ok (a := bn (decide (0 ≤ v ∧ v < (V : Int)))) (nn := bn (decide (1 ≤ z ∧ z ≤ 999))) (ss := 1) (low := I (-1)) (K := fun σ6 => gd (bM (σ6.2.2 0 4)) (bd (f_X3_unitsUpTo (σ6.2.2 0 4) (I v) (I z) σ6) fun r8 σ9 => some (r8, σ9))) (fr := f_X7_under (I v) (I z))
    hG (bn_bnd _) (bn_bnd _) (by omega)
    (fun hc => by
      rcases tc_cases (pres := pres) (a := bn (decide (0 ≤ v ∧ v < (V : Int)))) (n := bn (decide (1 ≤ z ∧ z ≤ 999))) (s := 1) with ⟨q1, q2⟩ | ⟨q1, q2, q3⟩ | ⟨q1, q2, q3, q4⟩ | ⟨-, -, -, q2, -⟩ | ⟨-, -, -, -, q2⟩
      · rw [q2]; exact under_1 (rIsV0 hv g21 (bn_bnd _) g14 h5 (Or.inl (by rw [q1]; rfl)))
      · rw [q3]; exact under_1 (rIsV0 hv g21 (bn_bnd _) g14 h5 (Or.inr (bn_0 q2)))
      · have y := bn_n0 q2
        rw [q4]; exact under_2 (rIsV1 hv g21 (by rw [q1]; rfl) g14 h5 y.1 y.2) (rIn0 hz (by unfold R; omega) (by unfold R; omega) (bn_0 q3))
      · omega
      · exact absurd q2 hc)
    (fun hp ha hn _ hM hR => by
      have y := bn_1 ha
      have w := bn_1 hn
      obtain ⟨u, hu⟩ := Int.eq_ofNat_of_zero_le y.1
      have e1 := cUnits (v := u) (p := z) hM.2.1 hM.1 (by omega) hz
      have e2 := rUnits (v := u) (p := z) hM.2.2.1 hM.1 (by omega) hz
      rw [← hu] at e1 e2
      exact ⟨_, _, _, by rw [show (wi σ 0 12 (I 0)).2.2 0 4 = m from hG.2.1, bm, gd_t, e1, bd_s], under_3 (rIsV1 hv g21 (by rw [hp]; rfl) g14 h5 y.1 y.2) (rIn1 hz (by unfold R; omega) (by unfold R; omega) w) e2, QFr, RQr⟩)
  refine ⟨x, σ', τ', ?_, k2, ⟨m, V, E, pres, kp, d, p, L, W, dl, pl, et, b, t, s, rd, h, n, g, GA_B k3 (by omega)⟩, k4⟩
  unfold f_X6_under
  rw [c1, bd_s, show (1 : Int32) = I 1 from rfl, show (999 : Int32) = I 999 from rfl, c2, bd_s]
  exact k1
/-! can so much be had -/
def hv_ (d : MD) (p : Int) (v : Nat) (z : Int) : Bool := decide (0 ≤ z ∧ z % d.lo v = 0 ∧ z ≤ dep d p v)
theorem cHad {m : Nat} {σ : Wd} {V v : Nat} {d : MD} {p z : Int} (h : CV m σ V d) (hd : MDok d V) (hv : v < V) (hp : R p) (hl : σ.1 m 1 = I p) (hz : R z) : f_X3_canBeHad m (I (v : Int)) (I z) σ = some (I (bn (decide (z ≤ 120) && hv_ d p v z)), σ) := by
  have v5 : v < 5 := Nat.lt_of_lt_of_le hv hd.1
  obtain ⟨-, lb, -⟩ := hd.2 v hv
  have db := dep_bnd (p := p) hd hv
  have e1 := cLot h hd hv
  have e2 := cDepth h hd hv hp hl
  have hzR := hz
  unfold R at hzR
  unfold hv_
  clear h
  by_cases c1 : z < 0
  · rw [decide_eq_false (show ¬ (0 ≤ z ∧ z % d.lo v = 0 ∧ z ≤ dep d p v) by omega), Bool.and_false, bn_f]
    unfold f_X3_canBeHad
    simp (disch := omega) only [↓reduceIte, gd_t, bd_s, nm_W, nm_I, I_add, I_sub, I_mul, I_neg, I_le_t, I_le_f, I_lt_t, I_lt_f, I_eq_t, I_eq_f, I_inb', I_ix', Int.toNat_natCast, decide_true, decide_false, Bool.not_false, Bool.not_true, if_true, if_false, wi_eq, wi_eq', wi_ne, wi_row, wi_2, N0, N1, N2, N3, N4, N5, N6, N7, N8, N9, N10, N11, N12, N13, N14, N15, N16, N17, N18, N19, N20, N21, N22, N23, N24, N25, N26, N27, N28, N29, N30, N31, N32, N33, N34, N35, N36, N37, N38, N39, N40, N41, N42, N43, N45, N48, N57, N59, N88, N89, N97, N99, N120, N121, N122, N179, N200, N255, N300, N400, N880, N900, N999, N1019, N50000000, N100000000, N1000000000, N2147483647, N2147483648, f_X3_canBeHad_33, f_X3_canBeHad_34, isb_0]
  · by_cases c2 : 120 < z
    · rw [decide_eq_false (show ¬ z ≤ 120 by omega), Bool.false_and, bn_f]
      unfold f_X3_canBeHad
      simp (disch := omega) only [↓reduceIte, gd_t, bd_s, nm_W, nm_I, I_add, I_sub, I_mul, I_neg, I_le_t, I_le_f, I_lt_t, I_lt_f, I_eq_t, I_eq_f, I_inb', I_ix', Int.toNat_natCast, decide_true, decide_false, Bool.not_false, Bool.not_true, if_true, if_false, wi_eq, wi_eq', wi_ne, wi_row, wi_2, N0, N1, N2, N3, N4, N5, N6, N7, N8, N9, N10, N11, N12, N13, N14, N15, N16, N17, N18, N19, N20, N21, N22, N23, N24, N25, N26, N27, N28, N29, N30, N31, N32, N33, N34, N35, N36, N37, N38, N39, N40, N41, N42, N43, N45, N48, N57, N59, N88, N89, N97, N99, N120, N121, N122, N179, N200, N255, N300, N400, N880, N900, N999, N1019, N50000000, N100000000, N1000000000, N2147483647, N2147483648, f_X3_canBeHad_33, f_X3_canBeHad_34, isb_0]
    · have me := Int.emod_nonneg z (show d.lo v ≠ 0 by omega)
      have ml := Int.emod_lt_of_pos z (show 0 < d.lo v by omega)
      have em : I z % I (d.lo v) = I (z % d.lo v) := I_mod hz (by unfold R; omega) (by omega) (by omega)
      rw [decide_eq_true (show z ≤ 120 by omega), Bool.true_and]
      by_cases c3 : z % d.lo v = 0
      · by_cases c4 : z ≤ dep d p v
        · rw [decide_eq_true ⟨by omega, c3, c4⟩, bn_t]
          unfold f_X3_canBeHad
          simp (disch := omega) only [↓reduceIte, gd_t, bd_s, nm_W, nm_I, I_add, I_sub, I_mul, I_neg, I_le_t, I_le_f, I_lt_t, I_lt_f, I_eq_t, I_eq_f, I_inb', I_ix', Int.toNat_natCast, decide_true, decide_false, Bool.not_false, Bool.not_true, if_true, if_false, wi_eq, wi_eq', wi_ne, wi_row, wi_2, N0, N1, N2, N3, N4, N5, N6, N7, N8, N9, N10, N11, N12, N13, N14, N15, N16, N17, N18, N19, N20, N21, N22, N23, N24, N25, N26, N27, N28, N29, N30, N31, N32, N33, N34, N35, N36, N37, N38, N39, N40, N41, N42, N43, N45, N48, N57, N59, N88, N89, N97, N99, N120, N121, N122, N179, N200, N255, N300, N400, N880, N900, N999, N1019, N50000000, N100000000, N1000000000, N2147483647, N2147483648, e1, em, e2, f_X3_canBeHad_34, isb_1]
        · rw [decide_eq_false (fun q => c4 q.2.2), bn_f]
          unfold f_X3_canBeHad
          simp (disch := omega) only [↓reduceIte, gd_t, bd_s, nm_W, nm_I, I_add, I_sub, I_mul, I_neg, I_le_t, I_le_f, I_lt_t, I_lt_f, I_eq_t, I_eq_f, I_inb', I_ix', Int.toNat_natCast, decide_true, decide_false, Bool.not_false, Bool.not_true, if_true, if_false, wi_eq, wi_eq', wi_ne, wi_row, wi_2, N0, N1, N2, N3, N4, N5, N6, N7, N8, N9, N10, N11, N12, N13, N14, N15, N16, N17, N18, N19, N20, N21, N22, N23, N24, N25, N26, N27, N28, N29, N30, N31, N32, N33, N34, N35, N36, N37, N38, N39, N40, N41, N42, N43, N45, N48, N57, N59, N88, N89, N97, N99, N120, N121, N122, N179, N200, N255, N300, N400, N880, N900, N999, N1019, N50000000, N100000000, N1000000000, N2147483647, N2147483648, e1, em, e2, f_X3_canBeHad_33, f_X3_canBeHad_34, isb_0]
      · rw [decide_eq_false (fun q => c3 q.2.1), bn_f]
        unfold f_X3_canBeHad
        simp (disch := omega) only [↓reduceIte, gd_t, bd_s, nm_W, nm_I, I_add, I_sub, I_mul, I_neg, I_le_t, I_le_f, I_lt_t, I_lt_f, I_eq_t, I_eq_f, I_inb', I_ix', Int.toNat_natCast, decide_true, decide_false, Bool.not_false, Bool.not_true, if_true, if_false, wi_eq, wi_eq', wi_ne, wi_row, wi_2, N0, N1, N2, N3, N4, N5, N6, N7, N8, N9, N10, N11, N12, N13, N14, N15, N16, N17, N18, N19, N20, N21, N22, N23, N24, N25, N26, N27, N28, N29, N30, N31, N32, N33, N34, N35, N36, N37, N38, N39, N40, N41, N42, N43, N45, N48, N57, N59, N88, N89, N97, N99, N120, N121, N122, N179, N200, N255, N300, N400, N880, N900, N999, N1019, N50000000, N100000000, N1000000000, N2147483647, N2147483648, e1, em, f_X3_canBeHad_33, f_X3_canBeHad_34, isb_0]
theorem rHad {τ : Wd} {V v : Nat} {d : MD} {p z : Int} (h : RV τ V d) (hd : MDok d V) (hv : v < V) (hp : R p) (hl : τ.1 102 12 = I p) (hz : R z) : f_X7_canHave (I (v : Int)) (I z) τ = some (I (bn (hv_ d p v z)), τ) := by
  have v5 : v < 5 := Nat.lt_of_lt_of_le hv hd.1
  obtain ⟨-, lb, -⟩ := hd.2 v hv
  have db := dep_bnd (p := p) hd hv
  have e1 := rLot h hd hv
  have e2 := rDepth h hd hv hp hl
  have hzR := hz
  unfold R at hzR
  unfold hv_
  clear h
  by_cases c1 : z < 0
  · rw [decide_eq_false (show ¬ (0 ≤ z ∧ z % d.lo v = 0 ∧ z ≤ dep d p v) by omega), bn_f]
    unfold f_X7_canHave
    simp (disch := omega) only [↓reduceIte, gd_t, bd_s, nm_W, nm_I, I_add, I_sub, I_mul, I_neg, I_le_t, I_le_f, I_lt_t, I_lt_f, I_eq_t, I_eq_f, I_inb', I_ix', Int.toNat_natCast, decide_true, decide_false, Bool.not_false, Bool.not_true, if_true, if_false, wi_eq, wi_eq', wi_ne, wi_row, wi_2, N0, N1, N2, N3, N4, N5, N6, N7, N8, N9, N10, N11, N12, N13, N14, N15, N16, N17, N18, N19, N20, N21, N22, N23, N24, N25, N26, N27, N28, N29, N30, N31, N32, N33, N34, N35, N36, N37, N38, N39, N40, N41, N42, N43, N45, N48, N57, N59, N88, N89, N97, N99, N120, N121, N122, N179, N200, N255, N300, N400, N880, N900, N999, N1019, N50000000, N100000000, N1000000000, N2147483647, N2147483648, f_X7_canHave_27, f_X7_canHave_28, isb_0]
  · have me := Int.emod_nonneg z (show d.lo v ≠ 0 by omega)
    have ml := Int.emod_lt_of_pos z (show 0 < d.lo v by omega)
    have em : I z % I (d.lo v) = I (z % d.lo v) := I_mod hz (by unfold R; omega) (by omega) (by omega)
    by_cases c3 : z % d.lo v = 0
    · by_cases c4 : z ≤ dep d p v
      · rw [decide_eq_true ⟨by omega, c3, c4⟩, bn_t]
        unfold f_X7_canHave
        simp (disch := omega) only [↓reduceIte, gd_t, bd_s, nm_W, nm_I, I_add, I_sub, I_mul, I_neg, I_le_t, I_le_f, I_lt_t, I_lt_f, I_eq_t, I_eq_f, I_inb', I_ix', Int.toNat_natCast, decide_true, decide_false, Bool.not_false, Bool.not_true, if_true, if_false, wi_eq, wi_eq', wi_ne, wi_row, wi_2, N0, N1, N2, N3, N4, N5, N6, N7, N8, N9, N10, N11, N12, N13, N14, N15, N16, N17, N18, N19, N20, N21, N22, N23, N24, N25, N26, N27, N28, N29, N30, N31, N32, N33, N34, N35, N36, N37, N38, N39, N40, N41, N42, N43, N45, N48, N57, N59, N88, N89, N97, N99, N120, N121, N122, N179, N200, N255, N300, N400, N880, N900, N999, N1019, N50000000, N100000000, N1000000000, N2147483647, N2147483648, e1, em, e2, f_X7_canHave_28, isb_1]
      · rw [decide_eq_false (fun q => c4 q.2.2), bn_f]
        unfold f_X7_canHave
        simp (disch := omega) only [↓reduceIte, gd_t, bd_s, nm_W, nm_I, I_add, I_sub, I_mul, I_neg, I_le_t, I_le_f, I_lt_t, I_lt_f, I_eq_t, I_eq_f, I_inb', I_ix', Int.toNat_natCast, decide_true, decide_false, Bool.not_false, Bool.not_true, if_true, if_false, wi_eq, wi_eq', wi_ne, wi_row, wi_2, N0, N1, N2, N3, N4, N5, N6, N7, N8, N9, N10, N11, N12, N13, N14, N15, N16, N17, N18, N19, N20, N21, N22, N23, N24, N25, N26, N27, N28, N29, N30, N31, N32, N33, N34, N35, N36, N37, N38, N39, N40, N41, N42, N43, N45, N48, N57, N59, N88, N89, N97, N99, N120, N121, N122, N179, N200, N255, N300, N400, N880, N900, N999, N1019, N50000000, N100000000, N1000000000, N2147483647, N2147483648, e1, em, e2, f_X7_canHave_27, f_X7_canHave_28, isb_0]
    · rw [decide_eq_false (fun q => c3 q.2.1), bn_f]
      unfold f_X7_canHave
      simp (disch := omega) only [↓reduceIte, gd_t, bd_s, nm_W, nm_I, I_add, I_sub, I_mul, I_neg, I_le_t, I_le_f, I_lt_t, I_lt_f, I_eq_t, I_eq_f, I_inb', I_ix', Int.toNat_natCast, decide_true, decide_false, Bool.not_false, Bool.not_true, if_true, if_false, wi_eq, wi_eq', wi_ne, wi_row, wi_2, N0, N1, N2, N3, N4, N5, N6, N7, N8, N9, N10, N11, N12, N13, N14, N15, N16, N17, N18, N19, N20, N21, N22, N23, N24, N25, N26, N27, N28, N29, N30, N31, N32, N33, N34, N35, N36, N37, N38, N39, N40, N41, N42, N43, N45, N48, N57, N59, N88, N89, N97, N99, N120, N121, N122, N179, N200, N255, N300, N400, N880, N900, N999, N1019, N50000000, N100000000, N1000000000, N2147483647, N2147483648, e1, em, f_X7_canHave_27, f_X7_canHave_28, isb_0]
end
section
/-! PURE: cost, venue, level -/
theorem cost_1 {τ : Wd} {v z : Int} (e : f_X7_isVenue (I v) (wi τ 102 0 (I 0)) = some (I 0, wi τ 102 0 (I 0))) : f_X7_cost (I v) (I z) τ = some (I (-2147483648), refW τ (I 1)) := by
  unfold f_X7_cost refW
  simp (disch := omega) only [↓reduceIte, gd_t, bd_s, nm_W, nm_I, I_add, I_sub, I_mul, I_neg, I_le_t, I_le_f, I_lt_t, I_lt_f, I_eq_t, I_eq_f, I_inb', I_ix', Int.toNat_natCast, decide_true, decide_false, Bool.not_false, Bool.not_true, if_true, if_false, wi_eq, wi_eq', wi_ne, wi_row, wi_2, N0, N1, N2, N3, N4, N5, N6, N7, N8, N9, N10, N11, N12, N13, N14, N15, N16, N17, N18, N19, N20, N21, N22, N23, N24, N25, N26, N27, N28, N29, N30, N31, N32, N33, N34, N35, N36, N37, N38, N39, N40, N41, N42, N43, N45, N48, N57, N59, N88, N89, N97, N99, N120, N121, N122, N179, N200, N255, N300, N400, N880, N900, N999, N1019, N50000000, N100000000, N1000000000, N2147483647, N2147483648, e, refL]
theorem cost_2 {τ : Wd} {v z a b : Int} (e : f_X7_isVenue (I v) (wi τ 102 0 (I 0)) = some (I 1, wi τ 102 0 (I 0))) (e2 : f_X7_in (I z) (I 0) (I 120) (wi τ 102 0 (I 0)) = some (I a, wi τ 102 0 (I 0))) (e3 : f_X7_canHave (I v) (I z) (wi τ 102 0 (I 0)) = some (I b, wi τ 102 0 (I 0))) (h : a = 0 ∨ (a = 1 ∧ b = 0)) : f_X7_cost (I v) (I z) τ = some (I (-2147483648), refW τ (I 2)) := by
  unfold f_X7_cost refW f_X7_cost_51
  rcases h with h | ⟨h, h2⟩
  · simp (disch := omega) only [↓reduceIte, gd_t, bd_s, nm_W, nm_I, I_add, I_sub, I_mul, I_neg, I_le_t, I_le_f, I_lt_t, I_lt_f, I_eq_t, I_eq_f, I_inb', I_ix', Int.toNat_natCast, decide_true, decide_false, Bool.not_false, Bool.not_true, if_true, if_false, wi_eq, wi_eq', wi_ne, wi_row, wi_2, N0, N1, N2, N3, N4, N5, N6, N7, N8, N9, N10, N11, N12, N13, N14, N15, N16, N17, N18, N19, N20, N21, N22, N23, N24, N25, N26, N27, N28, N29, N30, N31, N32, N33, N34, N35, N36, N37, N38, N39, N40, N41, N42, N43, N45, N48, N57, N59, N88, N89, N97, N99, N120, N121, N122, N179, N200, N255, N300, N400, N880, N900, N999, N1019, N50000000, N100000000, N1000000000, N2147483647, N2147483648, e, e2, refL, f_X7_cost_56]
  · simp (disch := omega) only [↓reduceIte, gd_t, bd_s, nm_W, nm_I, I_add, I_sub, I_mul, I_neg, I_le_t, I_le_f, I_lt_t, I_lt_f, I_eq_t, I_eq_f, I_inb', I_ix', Int.toNat_natCast, decide_true, decide_false, Bool.not_false, Bool.not_true, if_true, if_false, wi_eq, wi_eq', wi_ne, wi_row, wi_2, N0, N1, N2, N3, N4, N5, N6, N7, N8, N9, N10, N11, N12, N13, N14, N15, N16, N17, N18, N19, N20, N21, N22, N23, N24, N25, N26, N27, N28, N29, N30, N31, N32, N33, N34, N35, N36, N37, N38, N39, N40, N41, N42, N43, N45, N48, N57, N59, N88, N89, N97, N99, N120, N121, N122, N179, N200, N255, N300, N400, N880, N900, N999, N1019, N50000000, N100000000, N1000000000, N2147483647, N2147483648, e, e2, e3, refL, f_X7_cost_56]
theorem cost_3 {τ : Wd} {v z x : Int} (e : f_X7_isVenue (I v) (wi τ 102 0 (I 0)) = some (I 1, wi τ 102 0 (I 0))) (e2 : f_X7_in (I z) (I 0) (I 120) (wi τ 102 0 (I 0)) = some (I 1, wi τ 102 0 (I 0))) (e3 : f_X7_canHave (I v) (I z) (wi τ 102 0 (I 0)) = some (I 1, wi τ 102 0 (I 0))) (e4 : f_X7_costOf (I v) (I z) (wi τ 102 0 (I 0)) = some (I x, wi τ 102 0 (I 0))) : f_X7_cost (I v) (I z) τ = bd (f_X7_good (I x) (wi τ 102 0 (I 0))) (fun r s => some (r, s)) := by
  unfold f_X7_cost f_X7_cost_56
  simp (disch := omega) only [↓reduceIte, gd_t, bd_s, nm_W, nm_I, I_add, I_sub, I_mul, I_neg, I_le_t, I_le_f, I_lt_t, I_lt_f, I_eq_t, I_eq_f, I_inb', I_ix', Int.toNat_natCast, decide_true, decide_false, Bool.not_false, Bool.not_true, if_true, if_false, wi_eq, wi_eq', wi_ne, wi_row, wi_2, N0, N1, N2, N3, N4, N5, N6, N7, N8, N9, N10, N11, N12, N13, N14, N15, N16, N17, N18, N19, N20, N21, N22, N23, N24, N25, N26, N27, N28, N29, N30, N31, N32, N33, N34, N35, N36, N37, N38, N39, N40, N41, N42, N43, N45, N48, N57, N59, N88, N89, N97, N99, N120, N121, N122, N179, N200, N255, N300, N400, N880, N900, N999, N1019, N50000000, N100000000, N1000000000, N2147483647, N2147483648, e, e2, e3, e4]
theorem c_cost {σ : Wd} {m : Nat} {v z a b : Int} (hm : σ.2.2 0 4 = m) (bm : bM m = true) (e1 : f_X6_isVenue (I v) σ = some (I a, σ)) (ha : 0 ≤ a ∧ a ≤ 1) (hb : 0 ≤ b ∧ b ≤ 1) (e2 : a = 1 → f_X3_canBeHad m (I v) (I z) σ = some (I b, σ)) (e3 : a = 0 → b = 0) : f_X6_cost (I v) (I z) σ = f_X6_cost_31 (I v) (I z) (I a) (I b) σ := by
  unfold f_X6_cost f_X6_cost_30
  by_cases c : a = 0
  · have e3 := e3 c
    simp (disch := omega) only [↓reduceIte, gd_t, bd_s, nm_W, nm_I, I_add, I_sub, I_mul, I_neg, I_le_t, I_le_f, I_lt_t, I_lt_f, I_eq_t, I_eq_f, I_inb', I_ix', Int.toNat_natCast, decide_true, decide_false, Bool.not_false, Bool.not_true, if_true, if_false, wi_eq, wi_eq', wi_ne, wi_row, wi_2, N0, N1, N2, N3, N4, N5, N6, N7, N8, N9, N10, N11, N12, N13, N14, N15, N16, N17, N18, N19, N20, N21, N22, N23, N24, N25, N26, N27, N28, N29, N30, N31, N32, N33, N34, N35, N36, N37, N38, N39, N40, N41, N42, N43, N45, N48, N57, N59, N88, N89, N97, N99, N120, N121, N122, N179, N200, N255, N300, N400, N880, N900, N999, N1019, N50000000, N100000000, N1000000000, N2147483647, N2147483648, e1]
    rw [e3]
  · have e2 := e2 (by omega)
    by_cases c2 : b = 0
    · simp (disch := omega) only [↓reduceIte, gd_t, bd_s, nm_W, nm_I, I_add, I_sub, I_mul, I_neg, I_le_t, I_le_f, I_lt_t, I_lt_f, I_eq_t, I_eq_f, I_inb', I_ix', Int.toNat_natCast, decide_true, decide_false, Bool.not_false, Bool.not_true, if_true, if_false, wi_eq, wi_eq', wi_ne, wi_row, wi_2, N0, N1, N2, N3, N4, N5, N6, N7, N8, N9, N10, N11, N12, N13, N14, N15, N16, N17, N18, N19, N20, N21, N22, N23, N24, N25, N26, N27, N28, N29, N30, N31, N32, N33, N34, N35, N36, N37, N38, N39, N40, N41, N42, N43, N45, N48, N57, N59, N88, N89, N97, N99, N120, N121, N122, N179, N200, N255, N300, N400, N880, N900, N999, N1019, N50000000, N100000000, N1000000000, N2147483647, N2147483648, e1, hm, bm, e2]
      rw [c2]
    · simp (disch := omega) only [↓reduceIte, gd_t, bd_s, nm_W, nm_I, I_add, I_sub, I_mul, I_neg, I_le_t, I_le_f, I_lt_t, I_lt_f, I_eq_t, I_eq_f, I_inb', I_ix', Int.toNat_natCast, decide_true, decide_false, Bool.not_false, Bool.not_true, if_true, if_false, wi_eq, wi_eq', wi_ne, wi_row, wi_2, N0, N1, N2, N3, N4, N5, N6, N7, N8, N9, N10, N11, N12, N13, N14, N15, N16, N17, N18, N19, N20, N21, N22, N23, N24, N25, N26, N27, N28, N29, N30, N31, N32, N33, N34, N35, N36, N37, N38, N39, N40, N41, N42, N43, N45, N48, N57, N59, N88, N89, N97, N99, N120, N121, N122, N179, N200, N255, N300, N400, N880, N900, N999, N1019, N50000000, N100000000, N1000000000, N2147483647, N2147483648, e1, hm, bm, e2]
      rw [show b = 1 from by omega]
theorem m_cost (x y : Int32) : MT (f_X6_cost x y) (f_X7_cost x y) := by
  intro σ τ B ⟨m, V, E, pres, kp, d, p, L, W, dl, pl, et, b, t, s, rd, h, n, g, hG⟩ hB
  obtain ⟨v, rfl, hv⟩ := argI x
  obtain ⟨z, rfl, hz⟩ := argI y
  obtain ⟨bm, m10, m63⟩ := bMm hG.1
  have hM0 := hG.2.2.1.1.1
  have h5 := hM0.1.1
  have g21 : (wi τ 102 0 (I 0)).1 102 21 = I (bn pres) := by rw [wi_ne (by decide)]; exact hG.2.2.2.1.2.1
  have g14 : (wi τ 102 0 (I 0)).1 102 14 = I (V : Int) := by rw [wi_ne (by decide)]; exact hM0.2.2.1.1
  have c1 := cIsV (σ := σ) hv hG.2.1 bm hM0.2.1.1 h5
  obtain ⟨hb, hhb⟩ : ∃ hb : Bool, hb = (decide (0 ≤ v ∧ v < (V : Int)) && (decide (z ≤ 120) && hv_ d p v.toNat z)) := ⟨_, rfl⟩
  have rv1 : RV (wi τ 102 0 (I 0)) V d := RV_congr hM0.2.2.1 (by rw [wi_ne (by decide)]) (wi_row (by decide)) (wi_row (by decide)) (wi_row (by decide))
  have rh : 0 ≤ v → v < (V : Int) → f_X7_canHave (I v) (I z) (wi τ 102 0 (I 0)) = some (I (bn (hv_ d p v.toNat z)), wi τ 102 0 (I 0)) := fun a1 a2 => by
    have q := rHad (v := v.toNat) (z := z) rv1 hM0.1 (by omega) (QM_p hM0) (by rw [wi_ne (by decide)]; exact hM0.2.2.2.1.2.1) hz
    rw [show ((v.toNat : Nat) : Int) = v from by omega] at q
    exact q
  have ri := rIn (σ := wi τ 102 0 (I 0)) (lo := 0) (hi := 120) hz (by unfold R; omega) (by unfold R; omega)
  obtain ⟨x, σ', τ', k1, k2, k3, k4⟩ := grq_ok (a := bn (decide (0 ≤ v ∧ v < (V : Int)))) (nn := bn hb) (ss := 1) (low := I (-2147483648)) (K := fun σ2 => gd (bM (σ2.2.2 0 4)) (bd (f_X3_costOf (σ2.2.2 0 4) (I v) (I z) σ2) fun r4 σ5 => some (r4, σ5))) (fr := f_X7_cost (I v) (I z))
    hG (bn_bnd _) (bn_bnd _) (by omega)
    (fun hc => by
      rcases tc_cases (pres := pres) (a := bn (decide (0 ≤ v ∧ v < (V : Int)))) (n := bn hb) (s := 1) with ⟨q1, q2⟩ | ⟨q1, q2, q3⟩ | ⟨q1, q2, q3, q4⟩ | ⟨-, -, -, q2, -⟩ | ⟨-, -, -, -, q2⟩
      · rw [q2]; exact cost_1 (rIsV0 hv g21 (bn_bnd _) g14 h5 (Or.inl (by rw [q1]; rfl)))
      · rw [q3]; exact cost_1 (rIsV0 hv g21 (bn_bnd _) g14 h5 (Or.inr (bn_0 q2)))
      · have y := bn_n0 q2
        rw [q4]
        refine cost_2 (rIsV1 hv g21 (by rw [q1]; rfl) g14 h5 y.1 y.2) ri (rh y.1 y.2) ?_
        rw [hhb, decide_eq_true y, Bool.true_and] at q3
        by_cases w : 0 ≤ z ∧ z ≤ 120
        · rw [decide_eq_true w.2, Bool.true_and] at q3
          rw [decide_eq_true w]
          exact Or.inr ⟨rfl, q3⟩
        · rw [decide_eq_false w]
          exact Or.inl rfl
      · omega
      · exact absurd q2 hc)
    (fun hp ha hn _ hM hR => by
      have y := bn_1 ha
      have hb1 : hb = true := by
        cases e : hb with
        | true => rfl
        | false => rw [e] at hn; cases hn
      rw [hhb, decide_eq_true y, Bool.true_and] at hb1
      obtain ⟨w1, w2⟩ := Bool.and_eq_true_iff.mp hb1
      have w1 := of_decide_eq_true w1
      have w3 := (of_decide_eq_true w2).1
      obtain ⟨u, hu⟩ := Int.eq_ofNat_of_zero_le y.1
      have e1 := cCost (v := u) (n := z) hM.2.1 hM.1 (by omega) (by omega) (by omega)
      have e2 := rCost (v := u) (n := z) hM.2.2.1 hM.1 (by omega) (by omega) (by omega)
      rw [← hu] at e1 e2
      have rh := rh y.1 y.2
      rw [w2] at rh
      exact ⟨_, _, _, by rw [show (wi σ 0 12 (I 0)).2.2 0 4 = m from hG.2.1, bm, gd_t, e1, bd_s], cost_3 (rIsV1 hv g21 (by rw [hp]; rfl) g14 h5 y.1 y.2) (rIn1 hz (by unfold R; omega) (by unfold R; omega) ⟨w3, w1⟩) rh e2, QFr, RQr⟩)
  refine ⟨x, σ', τ', ?_, k2, ⟨m, V, E, pres, kp, d, p, L, W, dl, pl, et, b, t, s, rd, h, n, g, GA_B k3 (by omega)⟩, k4⟩
  rw [c_cost hG.2.1 bm c1 (bn_bnd _) (bn_bnd hb) (fun q => by
    have y := bn_1 q
    have e := cHad (v := v.toNat) (z := z) hM0.2.1 hM0.1 (by omega) (QM_p hM0) hM0.2.2.2.1.1 hz
    rw [show ((v.toNat : Nat) : Int) = v from by omega] at e
    rw [hhb, decide_eq_true y, Bool.true_and]
    exact e) (fun q => by rw [hhb, decide_eq_false (bn_0 q), Bool.false_and]; rfl)]
  exact k1
theorem venue_1 {τ : Wd} {v z : Int} (e : f_X7_isVenue (I v) (wi τ 102 0 (I 0)) = some (I 0, wi τ 102 0 (I 0))) : f_X7_venue (I v) (I z) τ = some (I (-2147483648), refW τ (I 1)) := by
  unfold f_X7_venue refW
  simp (disch := omega) only [↓reduceIte, gd_t, bd_s, nm_W, nm_I, I_add, I_sub, I_mul, I_neg, I_le_t, I_le_f, I_lt_t, I_lt_f, I_eq_t, I_eq_f, I_inb', I_ix', Int.toNat_natCast, decide_true, decide_false, Bool.not_false, Bool.not_true, if_true, if_false, wi_eq, wi_eq', wi_ne, wi_row, wi_2, N0, N1, N2, N3, N4, N5, N6, N7, N8, N9, N10, N11, N12, N13, N14, N15, N16, N17, N18, N19, N20, N21, N22, N23, N24, N25, N26, N27, N28, N29, N30, N31, N32, N33, N34, N35, N36, N37, N38, N39, N40, N41, N42, N43, N45, N48, N57, N59, N88, N89, N97, N99, N120, N121, N122, N179, N200, N255, N300, N400, N880, N900, N999, N1019, N50000000, N100000000, N1000000000, N2147483647, N2147483648, e, refL]
theorem venue_2 {τ : Wd} {v z : Int} (hz : R z) (e : f_X7_isVenue (I v) (wi τ 102 0 (I 0)) = some (I 1, wi τ 102 0 (I 0))) (h : ¬ (0 ≤ z ∧ z ≤ 6)) : f_X7_venue (I v) (I z) τ = some (I (-2147483648), refW τ (I 1)) := by
  unfold R at hz
  unfold f_X7_venue refW
  rcases (show z < 0 ∨ 6 < z by omega) with c | c
  · simp (disch := omega) only [↓reduceIte, gd_t, bd_s, nm_W, nm_I, I_add, I_sub, I_mul, I_neg, I_le_t, I_le_f, I_lt_t, I_lt_f, I_eq_t, I_eq_f, I_inb', I_ix', Int.toNat_natCast, decide_true, decide_false, Bool.not_false, Bool.not_true, if_true, if_false, wi_eq, wi_eq', wi_ne, wi_row, wi_2, N0, N1, N2, N3, N4, N5, N6, N7, N8, N9, N10, N11, N12, N13, N14, N15, N16, N17, N18, N19, N20, N21, N22, N23, N24, N25, N26, N27, N28, N29, N30, N31, N32, N33, N34, N35, N36, N37, N38, N39, N40, N41, N42, N43, N45, N48, N57, N59, N88, N89, N97, N99, N120, N121, N122, N179, N200, N255, N300, N400, N880, N900, N999, N1019, N50000000, N100000000, N1000000000, N2147483647, N2147483648, e, refL]
  · simp (disch := omega) only [↓reduceIte, gd_t, bd_s, nm_W, nm_I, I_add, I_sub, I_mul, I_neg, I_le_t, I_le_f, I_lt_t, I_lt_f, I_eq_t, I_eq_f, I_inb', I_ix', Int.toNat_natCast, decide_true, decide_false, Bool.not_false, Bool.not_true, if_true, if_false, wi_eq, wi_eq', wi_ne, wi_row, wi_2, N0, N1, N2, N3, N4, N5, N6, N7, N8, N9, N10, N11, N12, N13, N14, N15, N16, N17, N18, N19, N20, N21, N22, N23, N24, N25, N26, N27, N28, N29, N30, N31, N32, N33, N34, N35, N36, N37, N38, N39, N40, N41, N42, N43, N45, N48, N57, N59, N88, N89, N97, N99, N120, N121, N122, N179, N200, N255, N300, N400, N880, N900, N999, N1019, N50000000, N100000000, N1000000000, N2147483647, N2147483648, e, refL]
theorem venue_3 {τ : Wd} {v : Nat} {z k l f a D w q : Int} (v5 : v < 5) (e : f_X7_isVenue (I (v : Int)) (wi τ 102 0 (I 0)) = some (I 1, wi τ 102 0 (I 0))) (e0 : τ.1 103 (5 * v) = I k) (e1 : τ.1 103 (5 * v + 1) = I l) (e2 : τ.1 112 (30 + v) = I f) (e3 : τ.1 103 (5 * v + 2) = I a) (e4 : τ.1 103 (5 * v + 3) = I D) (e5 : τ.1 103 (5 * v + 4) = I w) (e6 : f_X7_depth (I (v : Int)) (wi τ 102 0 (I 0)) = some (I q, wi τ 102 0 (I 0))) (h : 0 ≤ z ∧ z ≤ 6) :
    f_X7_venue (I (v : Int)) (I z) τ = bd (f_X7_good (I (if z = 0 then k else if z = 1 then l else if z = 2 then f else if z = 3 then a else if z = 4 then D else if z = 5 then w else q)) (wi τ 102 0 (I 0))) (fun r s => some (r, s)) := by
  have told : ∀ (j : Nat), j < 5 → f_X7_told (I (v : Int)) (I (j : Int)) (wi τ 102 0 (I 0)) = some (τ.1 103 (5 * v + j), wi τ 102 0 (I 0)) := fun j hj => by rw [told7 j v5 hj, wi_row (by decide)]
  have t0 := told 0 (by decide)
  have t2 := told 2 (by decide)
  have t3 := told 3 (by decide)
  rw [show (I ((0 : Nat) : Int)) = I 0 from rfl, show 5 * v + 0 = 5 * v from rfl, e0] at t0
  rw [show (I ((2 : Nat) : Int)) = I 2 from rfl, e3] at t2
  rw [show (I ((3 : Nat) : Int)) = I 3 from rfl, e4] at t3
  have tl := lot7 (σ := wi τ 102 0 (I 0)) v5
  have tv := levels7 (σ := wi τ 102 0 (I 0)) v5
  rw [wi_row (by decide), e1] at tl
  rw [wi_row (by decide), e5] at tv
  have w1 : ((30 : Int) + (v : Int)).toNat = 30 + v := by omega
  clear told
  rcases (show z = 0 ∨ z = 1 ∨ z = 2 ∨ z = 3 ∨ z = 4 ∨ z = 5 ∨ z = 6 by omega) with c | c | c | c | c | c | c
  · rw [if_pos c]
    unfold f_X7_venue
    simp (disch := omega) only [↓reduceIte, gd_t, bd_s, nm_W, nm_I, I_add, I_sub, I_mul, I_neg, I_le_t, I_le_f, I_lt_t, I_lt_f, I_eq_t, I_eq_f, I_inb', I_ix', Int.toNat_natCast, decide_true, decide_false, Bool.not_false, Bool.not_true, if_true, if_false, wi_eq, wi_eq', wi_ne, wi_row, wi_2, N0, N1, N2, N3, N4, N5, N6, N7, N8, N9, N10, N11, N12, N13, N14, N15, N16, N17, N18, N19, N20, N21, N22, N23, N24, N25, N26, N27, N28, N29, N30, N31, N32, N33, N34, N35, N36, N37, N38, N39, N40, N41, N42, N43, N45, N48, N57, N59, N88, N89, N97, N99, N120, N121, N122, N179, N200, N255, N300, N400, N880, N900, N999, N1019, N50000000, N100000000, N1000000000, N2147483647, N2147483648, e, t0]
  · rw [if_neg (by omega), if_pos c]
    unfold f_X7_venue
    simp (disch := omega) only [↓reduceIte, gd_t, bd_s, nm_W, nm_I, I_add, I_sub, I_mul, I_neg, I_le_t, I_le_f, I_lt_t, I_lt_f, I_eq_t, I_eq_f, I_inb', I_ix', Int.toNat_natCast, decide_true, decide_false, Bool.not_false, Bool.not_true, if_true, if_false, wi_eq, wi_eq', wi_ne, wi_row, wi_2, N0, N1, N2, N3, N4, N5, N6, N7, N8, N9, N10, N11, N12, N13, N14, N15, N16, N17, N18, N19, N20, N21, N22, N23, N24, N25, N26, N27, N28, N29, N30, N31, N32, N33, N34, N35, N36, N37, N38, N39, N40, N41, N42, N43, N45, N48, N57, N59, N88, N89, N97, N99, N120, N121, N122, N179, N200, N255, N300, N400, N880, N900, N999, N1019, N50000000, N100000000, N1000000000, N2147483647, N2147483648, e, tl]
  · rw [if_neg (by omega), if_neg (by omega), if_pos c]
    unfold f_X7_venue
    simp (disch := omega) only [↓reduceIte, gd_t, bd_s, nm_W, nm_I, I_add, I_sub, I_mul, I_neg, I_le_t, I_le_f, I_lt_t, I_lt_f, I_eq_t, I_eq_f, I_inb', I_ix', Int.toNat_natCast, decide_true, decide_false, Bool.not_false, Bool.not_true, if_true, if_false, wi_eq, wi_eq', wi_ne, wi_row, wi_2, N0, N1, N2, N3, N4, N5, N6, N7, N8, N9, N10, N11, N12, N13, N14, N15, N16, N17, N18, N19, N20, N21, N22, N23, N24, N25, N26, N27, N28, N29, N30, N31, N32, N33, N34, N35, N36, N37, N38, N39, N40, N41, N42, N43, N45, N48, N57, N59, N88, N89, N97, N99, N120, N121, N122, N179, N200, N255, N300, N400, N880, N900, N999, N1019, N50000000, N100000000, N1000000000, N2147483647, N2147483648, e, w1, e2]
  · rw [if_neg (by omega), if_neg (by omega), if_neg (by omega), if_pos c]
    unfold f_X7_venue
    simp (disch := omega) only [↓reduceIte, gd_t, bd_s, nm_W, nm_I, I_add, I_sub, I_mul, I_neg, I_le_t, I_le_f, I_lt_t, I_lt_f, I_eq_t, I_eq_f, I_inb', I_ix', Int.toNat_natCast, decide_true, decide_false, Bool.not_false, Bool.not_true, if_true, if_false, wi_eq, wi_eq', wi_ne, wi_row, wi_2, N0, N1, N2, N3, N4, N5, N6, N7, N8, N9, N10, N11, N12, N13, N14, N15, N16, N17, N18, N19, N20, N21, N22, N23, N24, N25, N26, N27, N28, N29, N30, N31, N32, N33, N34, N35, N36, N37, N38, N39, N40, N41, N42, N43, N45, N48, N57, N59, N88, N89, N97, N99, N120, N121, N122, N179, N200, N255, N300, N400, N880, N900, N999, N1019, N50000000, N100000000, N1000000000, N2147483647, N2147483648, e, t2]
  · rw [if_neg (by omega), if_neg (by omega), if_neg (by omega), if_neg (by omega), if_pos c]
    unfold f_X7_venue
    simp (disch := omega) only [↓reduceIte, gd_t, bd_s, nm_W, nm_I, I_add, I_sub, I_mul, I_neg, I_le_t, I_le_f, I_lt_t, I_lt_f, I_eq_t, I_eq_f, I_inb', I_ix', Int.toNat_natCast, decide_true, decide_false, Bool.not_false, Bool.not_true, if_true, if_false, wi_eq, wi_eq', wi_ne, wi_row, wi_2, N0, N1, N2, N3, N4, N5, N6, N7, N8, N9, N10, N11, N12, N13, N14, N15, N16, N17, N18, N19, N20, N21, N22, N23, N24, N25, N26, N27, N28, N29, N30, N31, N32, N33, N34, N35, N36, N37, N38, N39, N40, N41, N42, N43, N45, N48, N57, N59, N88, N89, N97, N99, N120, N121, N122, N179, N200, N255, N300, N400, N880, N900, N999, N1019, N50000000, N100000000, N1000000000, N2147483647, N2147483648, e, t3]
  · rw [if_neg (by omega), if_neg (by omega), if_neg (by omega), if_neg (by omega), if_neg (by omega), if_pos c]
    unfold f_X7_venue
    simp (disch := omega) only [↓reduceIte, gd_t, bd_s, nm_W, nm_I, I_add, I_sub, I_mul, I_neg, I_le_t, I_le_f, I_lt_t, I_lt_f, I_eq_t, I_eq_f, I_inb', I_ix', Int.toNat_natCast, decide_true, decide_false, Bool.not_false, Bool.not_true, if_true, if_false, wi_eq, wi_eq', wi_ne, wi_row, wi_2, N0, N1, N2, N3, N4, N5, N6, N7, N8, N9, N10, N11, N12, N13, N14, N15, N16, N17, N18, N19, N20, N21, N22, N23, N24, N25, N26, N27, N28, N29, N30, N31, N32, N33, N34, N35, N36, N37, N38, N39, N40, N41, N42, N43, N45, N48, N57, N59, N88, N89, N97, N99, N120, N121, N122, N179, N200, N255, N300, N400, N880, N900, N999, N1019, N50000000, N100000000, N1000000000, N2147483647, N2147483648, e, tv]
  · rw [if_neg (by omega), if_neg (by omega), if_neg (by omega), if_neg (by omega), if_neg (by omega), if_neg (by omega)]
    unfold f_X7_venue
    simp (disch := omega) only [↓reduceIte, gd_t, bd_s, nm_W, nm_I, I_add, I_sub, I_mul, I_neg, I_le_t, I_le_f, I_lt_t, I_lt_f, I_eq_t, I_eq_f, I_inb', I_ix', Int.toNat_natCast, decide_true, decide_false, Bool.not_false, Bool.not_true, if_true, if_false, wi_eq, wi_eq', wi_ne, wi_row, wi_2, N0, N1, N2, N3, N4, N5, N6, N7, N8, N9, N10, N11, N12, N13, N14, N15, N16, N17, N18, N19, N20, N21, N22, N23, N24, N25, N26, N27, N28, N29, N30, N31, N32, N33, N34, N35, N36, N37, N38, N39, N40, N41, N42, N43, N45, N48, N57, N59, N88, N89, N97, N99, N120, N121, N122, N179, N200, N255, N300, N400, N880, N900, N999, N1019, N50000000, N100000000, N1000000000, N2147483647, N2147483648, e, e6]
end
section
/-! PURE: venue, level -/
theorem c_venue {σ : Wd} {v w a c : Int} (e1 : f_X6_isVenue (I v) σ = some (I a, σ)) (e2 : f_X6_within (I w) (I 0) (I 6) σ = some (I c, σ)) (ha : 0 ≤ a ∧ a ≤ 1) (hc : 0 ≤ c ∧ c ≤ 1) : f_X6_venue (I v) (I w) σ = f_X6_venue_24 (I v) (I w) (I (a * c)) σ := by
  unfold f_X6_venue f_X6_venue_23
  by_cases c1 : a = 0
  · simp (disch := omega) only [↓reduceIte, gd_t, bd_s, nm_W, nm_I, I_add, I_sub, I_mul, I_neg, I_le_t, I_le_f, I_lt_t, I_lt_f, I_eq_t, I_eq_f, I_inb', I_ix', Int.toNat_natCast, decide_true, decide_false, Bool.not_false, Bool.not_true, if_true, if_false, wi_eq, wi_eq', wi_ne, wi_row, wi_2, N0, N1, N2, N3, N4, N5, N6, N7, N8, N9, N10, N11, N12, N13, N14, N15, N16, N17, N18, N19, N20, N21, N22, N23, N24, N25, N26, N27, N28, N29, N30, N31, N32, N33, N34, N35, N36, N37, N38, N39, N40, N41, N42, N43, N45, N48, N57, N59, N88, N89, N97, N99, N120, N121, N122, N179, N200, N255, N300, N400, N880, N900, N999, N1019, N50000000, N100000000, N1000000000, N2147483647, N2147483648, e1]
    rw [c1, Int.zero_mul]
  · have a1 : a = 1 := by omega
    by_cases c2 : c = 0
    · simp (disch := omega) only [↓reduceIte, gd_t, bd_s, nm_W, nm_I, I_add, I_sub, I_mul, I_neg, I_le_t, I_le_f, I_lt_t, I_lt_f, I_eq_t, I_eq_f, I_inb', I_ix', Int.toNat_natCast, decide_true, decide_false, Bool.not_false, Bool.not_true, if_true, if_false, wi_eq, wi_eq', wi_ne, wi_row, wi_2, N0, N1, N2, N3, N4, N5, N6, N7, N8, N9, N10, N11, N12, N13, N14, N15, N16, N17, N18, N19, N20, N21, N22, N23, N24, N25, N26, N27, N28, N29, N30, N31, N32, N33, N34, N35, N36, N37, N38, N39, N40, N41, N42, N43, N45, N48, N57, N59, N88, N89, N97, N99, N120, N121, N122, N179, N200, N255, N300, N400, N880, N900, N999, N1019, N50000000, N100000000, N1000000000, N2147483647, N2147483648, e1, e2]
      rw [c2, Int.mul_zero]
    · simp (disch := omega) only [↓reduceIte, gd_t, bd_s, nm_W, nm_I, I_add, I_sub, I_mul, I_neg, I_le_t, I_le_f, I_lt_t, I_lt_f, I_eq_t, I_eq_f, I_inb', I_ix', Int.toNat_natCast, decide_true, decide_false, Bool.not_false, Bool.not_true, if_true, if_false, wi_eq, wi_eq', wi_ne, wi_row, wi_2, N0, N1, N2, N3, N4, N5, N6, N7, N8, N9, N10, N11, N12, N13, N14, N15, N16, N17, N18, N19, N20, N21, N22, N23, N24, N25, N26, N27, N28, N29, N30, N31, N32, N33, N34, N35, N36, N37, N38, N39, N40, N41, N42, N43, N45, N48, N57, N59, N88, N89, N97, N99, N120, N121, N122, N179, N200, N255, N300, N400, N880, N900, N999, N1019, N50000000, N100000000, N1000000000, N2147483647, N2147483648, e1, e2]
      rw [a1, show c = 1 from by omega]
      rfl
theorem venue_K {σ : Wd} {m v : Nat} {z k l f a D w q : Int} (v5 : v < 5) (hm : σ.2.2 0 4 = m) (bm : bM m = true) (e0 : σ.1 (m + 1) v = I k) (e1 : σ.1 (m + 2) v = I l) (e2 : σ.1 (m + 3) v = I f) (e3 : σ.1 (m + 4) v = I a) (e4 : σ.1 (m + 5) v = I D) (e5 : σ.1 (m + 6) v = I w) (e6 : f_X3_depthOf m (I (v : Int)) σ = some (I q, σ)) (h : 0 ≤ z ∧ z ≤ 6) :
    (if I z = (0 : Int32) then (gd (bM (σ.2.2 0 4)) (gd (inb (I (v : Int)) 5) (some (σ.1 ((σ.2.2 0 4) + 1) (ix (I (v : Int))), σ)))) else (if I z = (1 : Int32) then (gd (bM (σ.2.2 0 4)) (gd (inb (I (v : Int)) 5) (some (σ.1 ((σ.2.2 0 4) + 2) (ix (I (v : Int))), σ)))) else (if I z = (2 : Int32) then (gd (bM (σ.2.2 0 4)) (gd (inb (I (v : Int)) 5) (some (σ.1 ((σ.2.2 0 4) + 3) (ix (I (v : Int))), σ)))) else (if I z = (3 : Int32) then (gd (bM (σ.2.2 0 4)) (gd (inb (I (v : Int)) 5) (some (σ.1 ((σ.2.2 0 4) + 4) (ix (I (v : Int))), σ)))) else (if I z = (4 : Int32) then (gd (bM (σ.2.2 0 4)) (gd (inb (I (v : Int)) 5) (some (σ.1 ((σ.2.2 0 4) + 5) (ix (I (v : Int))), σ)))) else (if I z = (5 : Int32) then (gd (bM (σ.2.2 0 4)) (gd (inb (I (v : Int)) 5) (some (σ.1 ((σ.2.2 0 4) + 6) (ix (I (v : Int))), σ)))) else (gd (bM (σ.2.2 0 4)) (bd (f_X3_depthOf (σ.2.2 0 4) (I (v : Int)) σ) fun r10 σ11 => some (r10, σ11)))))))))
      = some (I (if z = 0 then k else if z = 1 then l else if z = 2 then f else if z = 3 then a else if z = 4 then D else if z = 5 then w else q), σ) := by
  rw [hm]
  rcases (show z = 0 ∨ z = 1 ∨ z = 2 ∨ z = 3 ∨ z = 4 ∨ z = 5 ∨ z = 6 by omega) with c | c | c | c | c | c | c
  · have ei : (if z = 0 then k else if z = 1 then l else if z = 2 then f else if z = 3 then a else if z = 4 then D else if z = 5 then w else q) = k := by rw [if_pos c]
    rw [ei]
    simp (disch := omega) only [↓reduceIte, gd_t, bd_s, nm_W, nm_I, I_add, I_sub, I_mul, I_neg, I_le_t, I_le_f, I_lt_t, I_lt_f, I_eq_t, I_eq_f, I_inb', I_ix', Int.toNat_natCast, decide_true, decide_false, Bool.not_false, Bool.not_true, if_true, if_false, wi_eq, wi_eq', wi_ne, wi_row, wi_2, N0, N1, N2, N3, N4, N5, N6, N7, N8, N9, N10, N11, N12, N13, N14, N15, N16, N17, N18, N19, N20, N21, N22, N23, N24, N25, N26, N27, N28, N29, N30, N31, N32, N33, N34, N35, N36, N37, N38, N39, N40, N41, N42, N43, N45, N48, N57, N59, N88, N89, N97, N99, N120, N121, N122, N179, N200, N255, N300, N400, N880, N900, N999, N1019, N50000000, N100000000, N1000000000, N2147483647, N2147483648, bm, e0]
  · have ei : (if z = 0 then k else if z = 1 then l else if z = 2 then f else if z = 3 then a else if z = 4 then D else if z = 5 then w else q) = l := by rw [if_neg (by omega), if_pos c]
    rw [ei]
    simp (disch := omega) only [↓reduceIte, gd_t, bd_s, nm_W, nm_I, I_add, I_sub, I_mul, I_neg, I_le_t, I_le_f, I_lt_t, I_lt_f, I_eq_t, I_eq_f, I_inb', I_ix', Int.toNat_natCast, decide_true, decide_false, Bool.not_false, Bool.not_true, if_true, if_false, wi_eq, wi_eq', wi_ne, wi_row, wi_2, N0, N1, N2, N3, N4, N5, N6, N7, N8, N9, N10, N11, N12, N13, N14, N15, N16, N17, N18, N19, N20, N21, N22, N23, N24, N25, N26, N27, N28, N29, N30, N31, N32, N33, N34, N35, N36, N37, N38, N39, N40, N41, N42, N43, N45, N48, N57, N59, N88, N89, N97, N99, N120, N121, N122, N179, N200, N255, N300, N400, N880, N900, N999, N1019, N50000000, N100000000, N1000000000, N2147483647, N2147483648, bm, e1]
  · have ei : (if z = 0 then k else if z = 1 then l else if z = 2 then f else if z = 3 then a else if z = 4 then D else if z = 5 then w else q) = f := by rw [if_neg (by omega), if_neg (by omega), if_pos c]
    rw [ei]
    simp (disch := omega) only [↓reduceIte, gd_t, bd_s, nm_W, nm_I, I_add, I_sub, I_mul, I_neg, I_le_t, I_le_f, I_lt_t, I_lt_f, I_eq_t, I_eq_f, I_inb', I_ix', Int.toNat_natCast, decide_true, decide_false, Bool.not_false, Bool.not_true, if_true, if_false, wi_eq, wi_eq', wi_ne, wi_row, wi_2, N0, N1, N2, N3, N4, N5, N6, N7, N8, N9, N10, N11, N12, N13, N14, N15, N16, N17, N18, N19, N20, N21, N22, N23, N24, N25, N26, N27, N28, N29, N30, N31, N32, N33, N34, N35, N36, N37, N38, N39, N40, N41, N42, N43, N45, N48, N57, N59, N88, N89, N97, N99, N120, N121, N122, N179, N200, N255, N300, N400, N880, N900, N999, N1019, N50000000, N100000000, N1000000000, N2147483647, N2147483648, bm, e2]
  · have ei : (if z = 0 then k else if z = 1 then l else if z = 2 then f else if z = 3 then a else if z = 4 then D else if z = 5 then w else q) = a := by rw [if_neg (by omega), if_neg (by omega), if_neg (by omega), if_pos c]
    rw [ei]
    simp (disch := omega) only [↓reduceIte, gd_t, bd_s, nm_W, nm_I, I_add, I_sub, I_mul, I_neg, I_le_t, I_le_f, I_lt_t, I_lt_f, I_eq_t, I_eq_f, I_inb', I_ix', Int.toNat_natCast, decide_true, decide_false, Bool.not_false, Bool.not_true, if_true, if_false, wi_eq, wi_eq', wi_ne, wi_row, wi_2, N0, N1, N2, N3, N4, N5, N6, N7, N8, N9, N10, N11, N12, N13, N14, N15, N16, N17, N18, N19, N20, N21, N22, N23, N24, N25, N26, N27, N28, N29, N30, N31, N32, N33, N34, N35, N36, N37, N38, N39, N40, N41, N42, N43, N45, N48, N57, N59, N88, N89, N97, N99, N120, N121, N122, N179, N200, N255, N300, N400, N880, N900, N999, N1019, N50000000, N100000000, N1000000000, N2147483647, N2147483648, bm, e3]
  · have ei : (if z = 0 then k else if z = 1 then l else if z = 2 then f else if z = 3 then a else if z = 4 then D else if z = 5 then w else q) = D := by rw [if_neg (by omega), if_neg (by omega), if_neg (by omega), if_neg (by omega), if_pos c]
    rw [ei]
    simp (disch := omega) only [↓reduceIte, gd_t, bd_s, nm_W, nm_I, I_add, I_sub, I_mul, I_neg, I_le_t, I_le_f, I_lt_t, I_lt_f, I_eq_t, I_eq_f, I_inb', I_ix', Int.toNat_natCast, decide_true, decide_false, Bool.not_false, Bool.not_true, if_true, if_false, wi_eq, wi_eq', wi_ne, wi_row, wi_2, N0, N1, N2, N3, N4, N5, N6, N7, N8, N9, N10, N11, N12, N13, N14, N15, N16, N17, N18, N19, N20, N21, N22, N23, N24, N25, N26, N27, N28, N29, N30, N31, N32, N33, N34, N35, N36, N37, N38, N39, N40, N41, N42, N43, N45, N48, N57, N59, N88, N89, N97, N99, N120, N121, N122, N179, N200, N255, N300, N400, N880, N900, N999, N1019, N50000000, N100000000, N1000000000, N2147483647, N2147483648, bm, e4]
  · have ei : (if z = 0 then k else if z = 1 then l else if z = 2 then f else if z = 3 then a else if z = 4 then D else if z = 5 then w else q) = w := by rw [if_neg (by omega), if_neg (by omega), if_neg (by omega), if_neg (by omega), if_neg (by omega), if_pos c]
    rw [ei]
    simp (disch := omega) only [↓reduceIte, gd_t, bd_s, nm_W, nm_I, I_add, I_sub, I_mul, I_neg, I_le_t, I_le_f, I_lt_t, I_lt_f, I_eq_t, I_eq_f, I_inb', I_ix', Int.toNat_natCast, decide_true, decide_false, Bool.not_false, Bool.not_true, if_true, if_false, wi_eq, wi_eq', wi_ne, wi_row, wi_2, N0, N1, N2, N3, N4, N5, N6, N7, N8, N9, N10, N11, N12, N13, N14, N15, N16, N17, N18, N19, N20, N21, N22, N23, N24, N25, N26, N27, N28, N29, N30, N31, N32, N33, N34, N35, N36, N37, N38, N39, N40, N41, N42, N43, N45, N48, N57, N59, N88, N89, N97, N99, N120, N121, N122, N179, N200, N255, N300, N400, N880, N900, N999, N1019, N50000000, N100000000, N1000000000, N2147483647, N2147483648, bm, e5]
  · have ei : (if z = 0 then k else if z = 1 then l else if z = 2 then f else if z = 3 then a else if z = 4 then D else if z = 5 then w else q) = q := by rw [if_neg (by omega), if_neg (by omega), if_neg (by omega), if_neg (by omega), if_neg (by omega), if_neg (by omega)]
    rw [ei]
    simp (disch := omega) only [↓reduceIte, gd_t, bd_s, nm_W, nm_I, I_add, I_sub, I_mul, I_neg, I_le_t, I_le_f, I_lt_t, I_lt_f, I_eq_t, I_eq_f, I_inb', I_ix', Int.toNat_natCast, decide_true, decide_false, Bool.not_false, Bool.not_true, if_true, if_false, wi_eq, wi_eq', wi_ne, wi_row, wi_2, N0, N1, N2, N3, N4, N5, N6, N7, N8, N9, N10, N11, N12, N13, N14, N15, N16, N17, N18, N19, N20, N21, N22, N23, N24, N25, N26, N27, N28, N29, N30, N31, N32, N33, N34, N35, N36, N37, N38, N39, N40, N41, N42, N43, N45, N48, N57, N59, N88, N89, N97, N99, N120, N121, N122, N179, N200, N255, N300, N400, N880, N900, N999, N1019, N50000000, N100000000, N1000000000, N2147483647, N2147483648, bm, e6]
theorem bn_mul (a b : Bool) : bn a * bn b = bn (a && b) := by cases a <;> cases b <;> rfl
theorem m_venue (x y : Int32) : MT (f_X6_venue x y) (f_X7_venue x y) := by
  intro σ τ B ⟨m, V, E, pres, kp, d, p, L, W, dl, pl, et, b, t, s, rd, h, n, g, hG⟩ hB
  obtain ⟨v, rfl, hv⟩ := argI x
  obtain ⟨z, rfl, hz⟩ := argI y
  obtain ⟨bm, m10, m63⟩ := bMm hG.1
  have hM0 := hG.2.2.1.1.1
  have h5 := hM0.1.1
  have g21 : (wi τ 102 0 (I 0)).1 102 21 = I (bn pres) := by rw [wi_ne (by decide)]; exact hG.2.2.2.1.2.1
  have g14 : (wi τ 102 0 (I 0)).1 102 14 = I (V : Int) := by rw [wi_ne (by decide)]; exact hM0.2.2.1.1
  have c1 := cIsV (σ := σ) hv hG.2.1 bm hM0.2.1.1 h5
  have c2 := cWithin (σ := σ) (lo := 0) (hi := 6) hz (by unfold R; omega) (by unfold R; omega)
  obtain ⟨x, σ', τ', k1, k2, k3, k4⟩ := grq_ok (a := bn (decide (0 ≤ v ∧ v < (V : Int)) && decide (0 ≤ z ∧ z ≤ 6))) (nn := 1) (ss := 1) (low := I (-2147483648)) (K := fun σ2 => (if I z = (0 : Int32) then (gd (bM (σ2.2.2 0 4)) (gd (inb (I v) 5) (some (σ2.1 ((σ2.2.2 0 4) + 1) (ix (I v)), σ2)))) else (if I z = (1 : Int32) then (gd (bM (σ2.2.2 0 4)) (gd (inb (I v) 5) (some (σ2.1 ((σ2.2.2 0 4) + 2) (ix (I v)), σ2)))) else (if I z = (2 : Int32) then (gd (bM (σ2.2.2 0 4)) (gd (inb (I v) 5) (some (σ2.1 ((σ2.2.2 0 4) + 3) (ix (I v)), σ2)))) else (if I z = (3 : Int32) then (gd (bM (σ2.2.2 0 4)) (gd (inb (I v) 5) (some (σ2.1 ((σ2.2.2 0 4) + 4) (ix (I v)), σ2)))) else (if I z = (4 : Int32) then (gd (bM (σ2.2.2 0 4)) (gd (inb (I v) 5) (some (σ2.1 ((σ2.2.2 0 4) + 5) (ix (I v)), σ2)))) else (if I z = (5 : Int32) then (gd (bM (σ2.2.2 0 4)) (gd (inb (I v) 5) (some (σ2.1 ((σ2.2.2 0 4) + 6) (ix (I v)), σ2)))) else (gd (bM (σ2.2.2 0 4)) (bd (f_X3_depthOf (σ2.2.2 0 4) (I v) σ2) fun r10 σ11 => some (r10, σ11)))))))))) (fr := f_X7_venue (I v) (I z))
    hG (bn_bnd _) (by omega) (by omega)
    (fun hc => by
      rcases tc_cases (pres := pres) (a := bn (decide (0 ≤ v ∧ v < (V : Int)) && decide (0 ≤ z ∧ z ≤ 6))) (n := 1) (s := 1) with ⟨q1, q2⟩ | ⟨q1, q2, q3⟩ | ⟨-, -, q2, -⟩ | ⟨-, -, -, q2, -⟩ | ⟨-, -, -, -, q2⟩
      · rw [q2]; exact venue_1 (rIsV0 hv g21 (bn_bnd _) g14 h5 (Or.inl (by rw [q1]; rfl)))
      · rw [q3]
        by_cases y : 0 ≤ v ∧ v < (V : Int)
        · rw [decide_eq_true y, Bool.true_and] at q2
          exact venue_2 hz (rIsV1 hv g21 (by rw [q1]; rfl) g14 h5 y.1 y.2) (bn_0 q2)
        · exact venue_1 (rIsV0 hv g21 (bn_bnd _) g14 h5 (Or.inr y))
      · omega
      · omega
      · exact absurd q2 hc)
    (fun hp ha _ _ hM hR => by
      have y : (0 ≤ v ∧ v < (V : Int)) ∧ (0 ≤ z ∧ z ≤ 6) := by
        have q : (decide (0 ≤ v ∧ v < (V : Int)) && decide (0 ≤ z ∧ z ≤ 6)) = true := by
          cases e : (decide (0 ≤ v ∧ v < (V : Int)) && decide (0 ≤ z ∧ z ≤ 6)) with
          | true => rfl
          | false => rw [e] at ha; cases ha
        obtain ⟨q1, q2⟩ := Bool.and_eq_true_iff.mp q
        exact ⟨of_decide_eq_true q1, of_decide_eq_true q2⟩
      obtain ⟨⟨v0, v1⟩, zz⟩ := y
      have ev := rIsV1 (τ := wi τ 102 0 (I 0)) (x := bn pres) hv g21 (by rw [hp]; rfl) g14 h5 v0 v1
      obtain ⟨u, rfl⟩ := Int.eq_ofNat_of_zero_le v0
      have hu : u < V := by omega
      obtain ⟨a0, a1, a2, a3, a5, -⟩ := hM.2.1.2 u hu
      obtain ⟨b0, b1, b2, b3, b5, -⟩ := hM0.2.2.1.2 u hu
      have a4 := (hM.2.2.2.2.2.2.1 u hu).1
      have b4 := (hM0.2.2.2.2.2.2.1 u hu).2.1
      have a6 := cDepth hM.2.1 hM.1 hu (QM_p hM) hM.2.2.2.1.1
      have b6 := rDepth hM.2.2.1 hM.1 hu (QM_p hM) hM.2.2.2.1.2.1
      exact ⟨_, _, _, venue_K (by omega) (show (wi σ 0 12 (I 0)).2.2 0 4 = m from hG.2.1) bm a0 a1 a2 a3 a4 a5 a6 zz, venue_3 (by omega) ev b0 b1 b2 b3 b4 b5 b6 zz, QFr, RQr⟩)
  refine ⟨x, σ', τ', ?_, k2, ⟨m, V, E, pres, kp, d, p, L, W, dl, pl, et, b, t, s, rd, h, n, g, GA_B k3 (by omega)⟩, k4⟩
  rw [c_venue c1 c2 (bn_bnd _) (bn_bnd _), bn_mul]
  exact k1
end
section
/-! PURE: what is told with no refusal; questions to the run -/
theorem GA_t {m V E : Nat} {σ τ τ' : Wd} {pres kp : Bool} {d : MD} {p L W : Int} {dl pl et : Nat → Int} {b : Bool} {t s rd : Int} {h n g : Nat → Int} {B : Int} (hG : GA m σ τ V E pres kp d p L W dl pl et b t s rd h n g B) (e1 : ∀ k, k ≠ 102 → τ'.1 k = τ.1 k) (e2 : ∀ i, i ≠ 0 → τ'.1 102 i = τ.1 102 i) : GA m σ τ' V E pres kp d p L W dl pl et b t s rd h n g B := by
  obtain ⟨g1, g2, ⟨g3, g4⟩, ⟨g5, g6, g7⟩, ⟨g8, g9, g10⟩, ⟨⟨t1, t2, t3⟩, t4⟩, ⟨tp, p1, p2, p3, p4⟩⟩ := hG
  have m50 : m = 11 ∨ m = 24 := by omega
  refine ⟨g1, g2, ⟨QQ_congr g3 (by omega) (fun _ _ _ => rfl) (fun _ _ _ => rfl) (fun i a1 a2 => e2 i (by omega)) (e1 103 (by decide)) (e1 104 (by decide)) (e1 105 (by decide)) (e1 112 (by decide)), g4⟩, ⟨g5, by rw [e2 21 (by decide)]; exact g6, g7⟩,
    ⟨g8, by rw [e2 25 (by decide)]; exact g9, fun q => ⟨(g10 q).1, KK_congr (g10 q).2 (Int.le_refl _) (fun _ _ _ => rfl) (fun _ _ _ => rfl) (fun i a1 a2 => e2 i (by omega)) (e1 103 (by decide)) (e1 104 (by decide)) (e1 105 (by decide)) (e1 113 (by decide))⟩⟩,
    ⟨⟨by rw [e2 1 (by decide)]; exact t1, fun q => by rw [e2 2 (by decide)]; exact t2 q, fun q => by rw [e2 2 (by decide)]; exact t3 q⟩, by rw [e2 33 (by decide)]; exact t4⟩, ⟨tp, p1, p2, by rw [e2 27 (by decide)]; exact p3, fun i hi => by rw [e1 115 (by decide)]; exact p4 i hi⟩⟩
theorem told_ok {σ τ : Wd} {B : Int} {x : Int32} (hG : GG σ τ B) : GG σ (wi τ 102 0 (I 0)) (B + 200) ∧ CL_ σ σ ∧ RL_ τ (wi τ 102 0 (I 0)) := by
  obtain ⟨m, V, E, pres, kp, d, p, L, W, dl, pl, et, b, t, s, rd, h, n, g, hG⟩ := hG
  exact ⟨⟨m, V, E, pres, kp, d, p, L, W, dl, pl, et, b, t, s, rd, h, n, g, GA_B (GA_t hG (fun k hk => wi_row hk) (fun i hi => wi_ne hi)) (by omega)⟩, ⟨fun _ _ => rfl, rfl⟩, ⟨fun k hk => wi_row (by omega), rfl⟩⟩
theorem m_trouble : MT f_X6_trouble f_X7_trouble := by
  intro σ τ B hG hB
  have q := told_ok (x := 0) hG
  obtain ⟨m, V, E, pres, kp, d, p, L, W, dl, pl, et, b, t, s, rd, h, n, g, hG⟩ := hG
  refine ⟨σ.1 0 12, σ, wi τ 102 0 (I 0), rfl, ?_, q⟩
  rw [← hG.2.2.2.2.2.1.1.1]
  rfl
theorem m_fault : MT f_X6_fault f_X7_fault := by
  intro σ τ B hG hB
  have q := told_ok (x := 0) hG
  obtain ⟨m, V, E, pres, kp, d, p, L, W, dl, pl, et, b, t, s, rd, h, n, g, hG⟩ := hG
  refine ⟨σ.1 0 13, σ, wi τ 102 0 (I 0), rfl, ?_, q⟩
  rw [← hG.2.2.2.2.2.1.2]
  rfl
theorem m_where : MT f_X6_where f_X7_where := by
  intro σ τ B hG hB
  have q := told_ok (x := 0) hG
  obtain ⟨m, V, E, pres, kp, d, p, L, W, dl, pl, et, b, t, s, rd, h, n, g, hG⟩ := hG
  obtain ⟨⟨t1, t2, t3⟩, t4⟩ := hG.2.2.2.2.2.1
  by_cases c : σ.1 0 12 = I 4
  · refine ⟨σ.1 1 2, σ, wi τ 102 0 (I 0), ?_, ?_, q⟩
    · unfold f_X6_where f_X6_where_19
      rw [show (4 : Int32) = I 4 from rfl, if_pos c]
    · rw [← t2 c]
      rfl
  · refine ⟨I (-1), σ, wi τ 102 0 (I 0), ?_, ?_, q⟩
    · unfold f_X6_where f_X6_where_19
      rw [show (4 : Int32) = I 4 from rfl, if_neg c]
      rfl
    · rw [← t3 c]
      rfl
theorem size_c {σ : Wd} {w T K Bg : Int} (h0 : σ.1 1 0 = I T) (h1 : σ.1 0 11 = I K) (h2 : σ.1 63 0 = I Bg) (hw : R w) (hK : 0 ≤ K ∧ K ≤ 1) (hb : 0 ≤ Bg ∧ Bg ≤ 1) : f_X6_size (I w) σ = some (I (if w = 0 then T else if w = 1 then K else if w = 2 then Bg else -1), σ) := by
  unfold R at hw
  by_cases c0 : w = 0
  · rw [if_pos c0]
    unfold f_X6_size
    simp (disch := omega) only [↓reduceIte, gd_t, bd_s, nm_W, nm_I, I_add, I_sub, I_mul, I_neg, I_le_t, I_le_f, I_lt_t, I_lt_f, I_eq_t, I_eq_f, I_inb', I_ix', Int.toNat_natCast, decide_true, decide_false, Bool.not_false, Bool.not_true, if_true, if_false, wi_eq, wi_eq', wi_ne, wi_row, wi_2, N0, N1, N2, N3, N4, N5, N6, N7, N8, N9, N10, N11, N12, N13, N14, N15, N16, N17, N18, N19, N20, N21, N22, N23, N24, N25, N26, N27, N28, N29, N30, N31, N32, N33, N34, N35, N36, N37, N38, N39, N40, N41, N42, N43, N45, N48, N57, N59, N88, N89, N97, N99, N120, N121, N122, N179, N200, N255, N300, N400, N880, N900, N999, N1019, N50000000, N100000000, N1000000000, N2147483647, N2147483648, h0]
  · rw [if_neg c0]
    by_cases c1 : w = 1
    · rw [if_pos c1]
      unfold f_X6_size f_X6_size_48
      by_cases k : K = 0
      · simp (disch := omega) only [↓reduceIte, gd_t, bd_s, nm_W, nm_I, I_add, I_sub, I_mul, I_neg, I_le_t, I_le_f, I_lt_t, I_lt_f, I_eq_t, I_eq_f, I_inb', I_ix', Int.toNat_natCast, decide_true, decide_false, Bool.not_false, Bool.not_true, if_true, if_false, wi_eq, wi_eq', wi_ne, wi_row, wi_2, N0, N1, N2, N3, N4, N5, N6, N7, N8, N9, N10, N11, N12, N13, N14, N15, N16, N17, N18, N19, N20, N21, N22, N23, N24, N25, N26, N27, N28, N29, N30, N31, N32, N33, N34, N35, N36, N37, N38, N39, N40, N41, N42, N43, N45, N48, N57, N59, N88, N89, N97, N99, N120, N121, N122, N179, N200, N255, N300, N400, N880, N900, N999, N1019, N50000000, N100000000, N1000000000, N2147483647, N2147483648, h1]
        rw [k]
      · simp (disch := omega) only [↓reduceIte, gd_t, bd_s, nm_W, nm_I, I_add, I_sub, I_mul, I_neg, I_le_t, I_le_f, I_lt_t, I_lt_f, I_eq_t, I_eq_f, I_inb', I_ix', Int.toNat_natCast, decide_true, decide_false, Bool.not_false, Bool.not_true, if_true, if_false, wi_eq, wi_eq', wi_ne, wi_row, wi_2, N0, N1, N2, N3, N4, N5, N6, N7, N8, N9, N10, N11, N12, N13, N14, N15, N16, N17, N18, N19, N20, N21, N22, N23, N24, N25, N26, N27, N28, N29, N30, N31, N32, N33, N34, N35, N36, N37, N38, N39, N40, N41, N42, N43, N45, N48, N57, N59, N88, N89, N97, N99, N120, N121, N122, N179, N200, N255, N300, N400, N880, N900, N999, N1019, N50000000, N100000000, N1000000000, N2147483647, N2147483648, h1]
        rw [show K = 1 from by omega]
    · rw [if_neg c1]
      by_cases c2 : w = 2
      · rw [if_pos c2]
        unfold f_X6_size f_X6_size_64
        by_cases k : Bg = 0
        · simp (disch := omega) only [↓reduceIte, gd_t, bd_s, nm_W, nm_I, I_add, I_sub, I_mul, I_neg, I_le_t, I_le_f, I_lt_t, I_lt_f, I_eq_t, I_eq_f, I_inb', I_ix', Int.toNat_natCast, decide_true, decide_false, Bool.not_false, Bool.not_true, if_true, if_false, wi_eq, wi_eq', wi_ne, wi_row, wi_2, N0, N1, N2, N3, N4, N5, N6, N7, N8, N9, N10, N11, N12, N13, N14, N15, N16, N17, N18, N19, N20, N21, N22, N23, N24, N25, N26, N27, N28, N29, N30, N31, N32, N33, N34, N35, N36, N37, N38, N39, N40, N41, N42, N43, N45, N48, N57, N59, N88, N89, N97, N99, N120, N121, N122, N179, N200, N255, N300, N400, N880, N900, N999, N1019, N50000000, N100000000, N1000000000, N2147483647, N2147483648, h2]
          rw [k]
        · simp (disch := omega) only [↓reduceIte, gd_t, bd_s, nm_W, nm_I, I_add, I_sub, I_mul, I_neg, I_le_t, I_le_f, I_lt_t, I_lt_f, I_eq_t, I_eq_f, I_inb', I_ix', Int.toNat_natCast, decide_true, decide_false, Bool.not_false, Bool.not_true, if_true, if_false, wi_eq, wi_eq', wi_ne, wi_row, wi_2, N0, N1, N2, N3, N4, N5, N6, N7, N8, N9, N10, N11, N12, N13, N14, N15, N16, N17, N18, N19, N20, N21, N22, N23, N24, N25, N26, N27, N28, N29, N30, N31, N32, N33, N34, N35, N36, N37, N38, N39, N40, N41, N42, N43, N45, N48, N57, N59, N88, N89, N97, N99, N120, N121, N122, N179, N200, N255, N300, N400, N880, N900, N999, N1019, N50000000, N100000000, N1000000000, N2147483647, N2147483648, h2]
          rw [show Bg = 1 from by omega]
      · rw [if_neg c2]
        unfold f_X6_size
        simp (disch := omega) only [↓reduceIte, gd_t, bd_s, nm_W, nm_I, I_add, I_sub, I_mul, I_neg, I_le_t, I_le_f, I_lt_t, I_lt_f, I_eq_t, I_eq_f, I_inb', I_ix', Int.toNat_natCast, decide_true, decide_false, Bool.not_false, Bool.not_true, if_true, if_false, wi_eq, wi_eq', wi_ne, wi_row, wi_2, N0, N1, N2, N3, N4, N5, N6, N7, N8, N9, N10, N11, N12, N13, N14, N15, N16, N17, N18, N19, N20, N21, N22, N23, N24, N25, N26, N27, N28, N29, N30, N31, N32, N33, N34, N35, N36, N37, N38, N39, N40, N41, N42, N43, N45, N48, N57, N59, N88, N89, N97, N99, N120, N121, N122, N179, N200, N255, N300, N400, N880, N900, N999, N1019, N50000000, N100000000, N1000000000, N2147483647, N2147483648]
theorem size_r {τ : Wd} {w T K Bg : Int} (h0 : τ.1 102 27 = I T) (h1 : τ.1 102 25 = I K) (h2 : τ.1 112 36 = I Bg) (hw : R w) (hK : 0 ≤ K ∧ K ≤ 1) (hb : 0 ≤ Bg ∧ Bg ≤ 1) : f_X7_size (I w) τ = some (I (if w = 0 then T else if w = 1 then K else if w = 2 then Bg else -1), wi τ 102 0 (I 0)) := by
  unfold R at hw
  have w36 : Int.toNat 36 = 36 := rfl
  by_cases c0 : w = 0
  · rw [if_pos c0]
    unfold f_X7_size
    simp (disch := omega) only [↓reduceIte, gd_t, bd_s, nm_W, nm_I, I_add, I_sub, I_mul, I_neg, I_le_t, I_le_f, I_lt_t, I_lt_f, I_eq_t, I_eq_f, I_inb', I_ix', Int.toNat_natCast, decide_true, decide_false, Bool.not_false, Bool.not_true, if_true, if_false, wi_eq, wi_eq', wi_ne, wi_row, wi_2, N0, N1, N2, N3, N4, N5, N6, N7, N8, N9, N10, N11, N12, N13, N14, N15, N16, N17, N18, N19, N20, N21, N22, N23, N24, N25, N26, N27, N28, N29, N30, N31, N32, N33, N34, N35, N36, N37, N38, N39, N40, N41, N42, N43, N45, N48, N57, N59, N88, N89, N97, N99, N120, N121, N122, N179, N200, N255, N300, N400, N880, N900, N999, N1019, N50000000, N100000000, N1000000000, N2147483647, N2147483648, h0]
  · rw [if_neg c0]
    by_cases c1 : w = 1
    · rw [if_pos c1]
      unfold f_X7_size f_X7_size_31
      by_cases k : K = 0
      · simp (disch := omega) only [↓reduceIte, gd_t, bd_s, nm_W, nm_I, I_add, I_sub, I_mul, I_neg, I_le_t, I_le_f, I_lt_t, I_lt_f, I_eq_t, I_eq_f, I_inb', I_ix', Int.toNat_natCast, decide_true, decide_false, Bool.not_false, Bool.not_true, if_true, if_false, wi_eq, wi_eq', wi_ne, wi_row, wi_2, N0, N1, N2, N3, N4, N5, N6, N7, N8, N9, N10, N11, N12, N13, N14, N15, N16, N17, N18, N19, N20, N21, N22, N23, N24, N25, N26, N27, N28, N29, N30, N31, N32, N33, N34, N35, N36, N37, N38, N39, N40, N41, N42, N43, N45, N48, N57, N59, N88, N89, N97, N99, N120, N121, N122, N179, N200, N255, N300, N400, N880, N900, N999, N1019, N50000000, N100000000, N1000000000, N2147483647, N2147483648, h1]
        rw [k]
      · simp (disch := omega) only [↓reduceIte, gd_t, bd_s, nm_W, nm_I, I_add, I_sub, I_mul, I_neg, I_le_t, I_le_f, I_lt_t, I_lt_f, I_eq_t, I_eq_f, I_inb', I_ix', Int.toNat_natCast, decide_true, decide_false, Bool.not_false, Bool.not_true, if_true, if_false, wi_eq, wi_eq', wi_ne, wi_row, wi_2, N0, N1, N2, N3, N4, N5, N6, N7, N8, N9, N10, N11, N12, N13, N14, N15, N16, N17, N18, N19, N20, N21, N22, N23, N24, N25, N26, N27, N28, N29, N30, N31, N32, N33, N34, N35, N36, N37, N38, N39, N40, N41, N42, N43, N45, N48, N57, N59, N88, N89, N97, N99, N120, N121, N122, N179, N200, N255, N300, N400, N880, N900, N999, N1019, N50000000, N100000000, N1000000000, N2147483647, N2147483648, h1]
        rw [show K = 1 from by omega]
    · rw [if_neg c1]
      by_cases c2 : w = 2
      · rw [if_pos c2]
        unfold f_X7_size f_X7_size_48
        simp (disch := omega) only [↓reduceIte, gd_t, bd_s, nm_W, nm_I, I_add, I_sub, I_mul, I_neg, I_le_t, I_le_f, I_lt_t, I_lt_f, I_eq_t, I_eq_f, I_inb', I_ix', Int.toNat_natCast, decide_true, decide_false, Bool.not_false, Bool.not_true, if_true, if_false, wi_eq, wi_eq', wi_ne, wi_row, wi_2, N0, N1, N2, N3, N4, N5, N6, N7, N8, N9, N10, N11, N12, N13, N14, N15, N16, N17, N18, N19, N20, N21, N22, N23, N24, N25, N26, N27, N28, N29, N30, N31, N32, N33, N34, N35, N36, N37, N38, N39, N40, N41, N42, N43, N45, N48, N57, N59, N88, N89, N97, N99, N120, N121, N122, N179, N200, N255, N300, N400, N880, N900, N999, N1019, N50000000, N100000000, N1000000000, N2147483647, N2147483648, w36, h2]
      · rw [if_neg c2]
        unfold f_X7_size f_X7_size_48
        simp (disch := omega) only [↓reduceIte, gd_t, bd_s, nm_W, nm_I, I_add, I_sub, I_mul, I_neg, I_le_t, I_le_f, I_lt_t, I_lt_f, I_eq_t, I_eq_f, I_inb', I_ix', Int.toNat_natCast, decide_true, decide_false, Bool.not_false, Bool.not_true, if_true, if_false, wi_eq, wi_eq', wi_ne, wi_row, wi_2, N0, N1, N2, N3, N4, N5, N6, N7, N8, N9, N10, N11, N12, N13, N14, N15, N16, N17, N18, N19, N20, N21, N22, N23, N24, N25, N26, N27, N28, N29, N30, N31, N32, N33, N34, N35, N36, N37, N38, N39, N40, N41, N42, N43, N45, N48, N57, N59, N88, N89, N97, N99, N120, N121, N122, N179, N200, N255, N300, N400, N880, N900, N999, N1019, N50000000, N100000000, N1000000000, N2147483647, N2147483648]
theorem m_size (x : Int32) : MT (f_X6_size x) (f_X7_size x) := by
  intro σ τ B hG hB
  have q := told_ok (x := 0) hG
  obtain ⟨m, V, E, pres, kp, d, p, L, W, dl, pl, et, b, t, s, rd, h, n, g, hG⟩ := hG
  obtain ⟨w, rfl, hw⟩ := argI x
  obtain ⟨tp, p1, p2, p3, p4⟩ := hG.2.2.2.2.2.2
  exact ⟨_, σ, wi τ 102 0 (I 0), size_c p2 hG.2.2.2.2.1.1 hG.2.2.1.1.2.2.1.1.1 hw (bn_bnd _) (bn_bnd _), size_r p3 hG.2.2.2.2.1.2.1 hG.2.2.1.1.2.2.1.1.2 hw (bn_bnd _) (bn_bnd _), q⟩
theorem rRun {τ : Wd} {pres b : Bool} {a : Int} (h : τ.1 102 21 = I (bn pres)) (h36 : τ.1 112 36 = I (bn b)) (ha : 0 ≤ a ∧ a ≤ 1) : f_X7_refusesRun (I a) τ = some (I (tc pres a 1 (bn b)), τ) := by
  have w36 : Int.toNat 36 = 36 := rfl
  obtain ⟨x, hx⟩ : ∃ x, x = bn pres := ⟨_, rfl⟩
  have xb := bn_bnd pres
  rw [← hx] at h xb
  obtain ⟨y, hy⟩ : ∃ y, y = bn b := ⟨_, rfl⟩
  have yb := bn_bnd b
  rw [← hy] at h36 yb ⊢
  rcases tc_cases (pres := pres) (a := a) (n := 1) (s := y) with ⟨q1, q2⟩ | ⟨q1, q2, q3⟩ | ⟨-, -, q2, -⟩ | ⟨q1, q2, -, q3, q4⟩ | ⟨q1, q2, -, q3, q4⟩
  · have x0 : x = 0 := by rw [hx, q1]; rfl
    rw [q2]
    unfold f_X7_refusesRun f_X7_refusesRun_11 f_X7_refusesRun_30
    simp (disch := omega) only [↓reduceIte, gd_t, bd_s, nm_W, nm_I, I_add, I_sub, I_mul, I_neg, I_le_t, I_le_f, I_lt_t, I_lt_f, I_eq_t, I_eq_f, I_inb', I_ix', Int.toNat_natCast, decide_true, decide_false, Bool.not_false, Bool.not_true, if_true, if_false, wi_eq, wi_eq', wi_ne, wi_row, wi_2, N0, N1, N2, N3, N4, N5, N6, N7, N8, N9, N10, N11, N12, N13, N14, N15, N16, N17, N18, N19, N20, N21, N22, N23, N24, N25, N26, N27, N28, N29, N30, N31, N32, N33, N34, N35, N36, N37, N38, N39, N40, N41, N42, N43, N45, N48, N57, N59, N88, N89, N97, N99, N120, N121, N122, N179, N200, N255, N300, N400, N880, N900, N999, N1019, N50000000, N100000000, N1000000000, N2147483647, N2147483648, h]
  · have x1 : x = 1 := by rw [hx, q1]; rfl
    rw [q3]
    unfold f_X7_refusesRun f_X7_refusesRun_11 f_X7_refusesRun_30
    simp (disch := omega) only [↓reduceIte, gd_t, bd_s, nm_W, nm_I, I_add, I_sub, I_mul, I_neg, I_le_t, I_le_f, I_lt_t, I_lt_f, I_eq_t, I_eq_f, I_inb', I_ix', Int.toNat_natCast, decide_true, decide_false, Bool.not_false, Bool.not_true, if_true, if_false, wi_eq, wi_eq', wi_ne, wi_row, wi_2, N0, N1, N2, N3, N4, N5, N6, N7, N8, N9, N10, N11, N12, N13, N14, N15, N16, N17, N18, N19, N20, N21, N22, N23, N24, N25, N26, N27, N28, N29, N30, N31, N32, N33, N34, N35, N36, N37, N38, N39, N40, N41, N42, N43, N45, N48, N57, N59, N88, N89, N97, N99, N120, N121, N122, N179, N200, N255, N300, N400, N880, N900, N999, N1019, N50000000, N100000000, N1000000000, N2147483647, N2147483648, h]
  · omega
  · have x1 : x = 1 := by rw [hx, q1]; rfl
    rw [q4]
    unfold f_X7_refusesRun f_X7_refusesRun_30
    simp (disch := omega) only [↓reduceIte, gd_t, bd_s, nm_W, nm_I, I_add, I_sub, I_mul, I_neg, I_le_t, I_le_f, I_lt_t, I_lt_f, I_eq_t, I_eq_f, I_inb', I_ix', Int.toNat_natCast, decide_true, decide_false, Bool.not_false, Bool.not_true, if_true, if_false, wi_eq, wi_eq', wi_ne, wi_row, wi_2, N0, N1, N2, N3, N4, N5, N6, N7, N8, N9, N10, N11, N12, N13, N14, N15, N16, N17, N18, N19, N20, N21, N22, N23, N24, N25, N26, N27, N28, N29, N30, N31, N32, N33, N34, N35, N36, N37, N38, N39, N40, N41, N42, N43, N45, N48, N57, N59, N88, N89, N97, N99, N120, N121, N122, N179, N200, N255, N300, N400, N880, N900, N999, N1019, N50000000, N100000000, N1000000000, N2147483647, N2147483648, h, w36, h36]
  · have x1 : x = 1 := by rw [hx, q1]; rfl
    rw [q4]
    unfold f_X7_refusesRun f_X7_refusesRun_30
    simp (disch := omega) only [↓reduceIte, gd_t, bd_s, nm_W, nm_I, I_add, I_sub, I_mul, I_neg, I_le_t, I_le_f, I_lt_t, I_lt_f, I_eq_t, I_eq_f, I_inb', I_ix', Int.toNat_natCast, decide_true, decide_false, Bool.not_false, Bool.not_true, if_true, if_false, wi_eq, wi_eq', wi_ne, wi_row, wi_2, N0, N1, N2, N3, N4, N5, N6, N7, N8, N9, N10, N11, N12, N13, N14, N15, N16, N17, N18, N19, N20, N21, N22, N23, N24, N25, N26, N27, N28, N29, N30, N31, N32, N33, N34, N35, N36, N37, N38, N39, N40, N41, N42, N43, N45, N48, N57, N59, N88, N89, N97, N99, N120, N121, N122, N179, N200, N255, N300, N400, N880, N900, N999, N1019, N50000000, N100000000, N1000000000, N2147483647, N2147483648, h, w36, h36]
/-- a question to the run -/
theorem run_ok {m V E : Nat} {σ τ : Wd} {pres kp : Bool} {d : MD} {p L W : Int} {dl pl et : Nat → Int} {b : Bool} {t s rd : Int} {h n g : Nat → Int} {B a a' : Int} {low : Int32} {K K' : Wd → Option (Int32 × Wd)} {Rf : Int32 → Wd → Option (Int32 × Wd)}
    (hG : GA m σ τ V E pres kp d p L W dl pl et b t s rd h n g B) (ha : 0 ≤ a ∧ a ≤ 1) (ha' : 0 ≤ a' ∧ a' ≤ 1) (haa : pres = true → a = a') (hRf : ∀ c τ, Rf c τ = some (low, wi (wi τ 102 1 c) 102 2 (I (-1))))
    (hK : pres = true → a = 1 → b = true → QQ m 63 (wi σ 0 12 (I 0)) (wi τ 102 0 (I 0)) V E d p L W dl pl et b t s rd h n g → ∃ (x : Int32) (σ' τ4 : Wd), K (wi σ 0 12 (I 0)) = some (x, σ') ∧ K' (wi τ 102 0 (I 0)) = bd (f_X7_good x τ4) (fun r s => some (r, s)) ∧ QF (wi σ 0 12 (I 0)) σ' ∧ RQ (wi τ 102 0 (I 0)) τ4) :
    ∃ (x : Int32) (σ' τ' : Wd), (bd (f_X6_granted (I a) (I 1) (σ.1 63 0) σ) fun r1 σ2 => if r1 = 0 then some (low, σ2) else K σ2) = some (x, σ')
      ∧ (bd (f_X7_refusesRun (I a') (wi τ 102 0 (I 0))) fun r2 σ3 => if r2 ≤ 0 then K' σ3 else bd (Rf r2 σ3) fun r s => some (r, s)) = some (x, τ')
      ∧ GA m σ' τ' V E pres kp d p L W dl pl et b t s rd h n g B ∧ CL_ σ σ' ∧ RL_ τ τ' := by
  have m50 := hG.1
  have hQ := hG.2.2.1.1
  have e := rRun (τ := wi τ 102 0 (I 0)) (a := a') (pres := pres) (b := b) (by rw [wi_ne (by decide)]; exact hG.2.2.2.1.2.1) (by rw [wi_row (by decide)]; exact hQ.2.2.1.1.2) ha'
  rw [← tc_eq haa] at e
  rw [hQ.2.2.1.1.1, e, bd_s]
  have cb := tc_b (pres := pres) (a := a) (n := 1) (s := bn b)
  refine grq_ok (fr := fun _ => _) hG ha (by omega) (bn_bnd b) (fun hc => ?_) (fun q1 q2 _ q3 hM hR => ?_)
  · have nc : ¬ I (tc pres a 1 (bn b)) ≤ (0 : Int32) := by
      show ¬ I (tc pres a 1 (bn b)) ≤ I 0
      rw [I_le (by unfold R; omega) (by unfold R; omega)]; omega
    show (if I (tc pres a 1 (bn b)) ≤ (0 : Int32) then _ else _) = _
    rw [if_neg nc, hRf]
    rfl
  · have bt : b = true := by
      cases e : b with
      | true => rfl
      | false => rw [e] at q3; cases q3
    have c0 : tc pres a 1 (bn b) = 0 := by
      unfold tc
      rw [q1, q2, q3, if_neg (by decide), if_neg (by decide), if_neg (by decide)]
    obtain ⟨x, σ', τ4, k1, k2, k3, k4⟩ := hK q1 q2 bt (QQ_congr hQ (by omega) (fun k a1 a2 => wi_row (by omega)) (fun k a1 a2 => wi_row (by omega)) (fun i a1 a2 => wi_ne (by omega)) (wi_row (by decide)) (wi_row (by decide)) (wi_row (by decide)) (wi_row (by decide)))
    refine ⟨x, σ', τ4, k1, ?_, k3, k4⟩
    show (if I (tc pres a 1 (bn b)) ≤ (0 : Int32) then _ else _) = _
    rw [c0, if_pos (by decide)]
    exact k2
end
section
/-! PURE: now, entries, bought -/
theorem m_now (x : Int32) : MT (f_X6_now x) (f_X7_now x) := by
  intro σ τ B ⟨m, V, E, pres, kp, d, p, L, W, dl, pl, et, b, t, s, rd, h, n, g, hG⟩ hB
  obtain ⟨w, rfl, hw⟩ := argI x
  obtain ⟨bm, m10, m63⟩ := bMm hG.1
  have c1 := cWithin (σ := σ) (lo := 0) (hi := 7) hw (by unfold R; omega) (by unfold R; omega)
  have c2 := rIn (σ := wi τ 102 0 (I 0)) (lo := 0) (hi := 7) hw (by unfold R; omega) (by unfold R; omega)
  obtain ⟨x, σ', τ', k1, k2, k3, k4⟩ := run_ok (a := bn (decide (0 ≤ w ∧ w ≤ 7))) (a' := bn (decide (0 ≤ w ∧ w ≤ 7))) (low := I (-2147483648)) (K := fun σ4 => gd (bM (σ4.2.2 0 4)) (bd (f_X4_tell 63 (σ4.2.2 0 4) (I w) σ4) fun r6 σ7 => some (r6, σ7))) (K' := fun σ5 => bd (f_X7_isNow (I w) σ5) fun r6 σ7 => bd (f_X7_good r6 σ7) fun r8 σ9 => (f_X7_now_38 r8 σ9)) (Rf := f_X7_refusedLow)
    hG (bn_bnd _) (bn_bnd _) (fun _ => rfl) (fun c τ => refL) (fun _ ha _ hQ => by
      have y := bn_1 ha
      obtain ⟨τ4, x, e1, e2, e3⟩ := tell_ok hQ y.1 y.2
      refine ⟨x, _, τ4, ?_, ?_, QFr, ⟨fun k k1 k2 => e3.1 k k1 (by omega) (by omega), fun i hi => e3.2.1 i (by omega) (by omega), e3.2.2⟩⟩
      · show gd (bM ((wi σ 0 12 (I 0)).2.2 0 4)) (bd (f_X4_tell 63 ((wi σ 0 12 (I 0)).2.2 0 4) (I w) (wi σ 0 12 (I 0))) _) = _
        rw [show (wi σ 0 12 (I 0)).2.2 0 4 = m from hG.2.1, bm, gd_t, e1, bd_s]
      · show bd (f_X7_isNow (I w) (wi τ 102 0 (I 0))) _ = _
        rw [e2, bd_s]
        rfl)
  refine ⟨x, σ', τ', ?_, ?_, ⟨m, V, E, pres, kp, d, p, L, W, dl, pl, et, b, t, s, rd, h, n, g, GA_B k3 (by omega)⟩, k4⟩
  · unfold f_X6_now
    rw [show (0 : Int32) = I 0 from rfl, show (7 : Int32) = I 7 from rfl, c1, bd_s]
    exact k1
  · unfold f_X7_now
    rw [nm_W]
    show bd (f_X7_in (I w) (I 0) (I 7) (wi τ 102 0 (I 0))) _ = _
    rw [c2, bd_s]
    exact k2
theorem m_entries : MT f_X6_entries f_X7_entries := by
  intro σ τ B ⟨m, V, E, pres, kp, d, p, L, W, dl, pl, et, b, t, s, rd, h, n, g, hG⟩ hB
  obtain ⟨x, σ', τ', k1, k2, k3, k4⟩ := run_ok (a := 1) (a' := 1) (low := I (-1)) (K := fun σ2 => some (σ2.1 72 0, σ2)) (K' := fun σ3 => gd (inb (88 : Int32) 179) (bd (f_X7_good (σ3.1 112 (ix (88 : Int32))) σ3) fun r4 σ5 => (f_X7_entries_34 r4 σ5))) (Rf := f_X7_refused)
    hG (by omega) (by omega) (fun _ => rfl) (fun c τ => refR) (fun _ _ _ hQ => by
      obtain ⟨c, sl, l1, l2, l3, -⟩ := hQ.2.2.2.2.2.1
      refine ⟨I (c : Int), _, wi τ 102 0 (I 0), ?_, ?_, QFr, RQr⟩
      · show some ((wi σ 0 12 (I 0)).1 72 0, _) = _
        rw [show (wi σ 0 12 (I 0)).1 72 0 = I (c : Int) from l2]
      · show gd (inb (88 : Int32) 179) (bd (f_X7_good ((wi τ 102 0 (I 0)).1 112 (ix (88 : Int32))) (wi τ 102 0 (I 0))) _) = _
        rw [show (wi τ 102 0 (I 0)).1 112 (ix (88 : Int32)) = I (c : Int) from l3]
        rfl)
  exact ⟨x, σ', τ', k1, k2, ⟨m, V, E, pres, kp, d, p, L, W, dl, pl, et, b, t, s, rd, h, n, g, GA_B k3 (by omega)⟩, k4⟩
theorem r_bought {b : Nat} {σ τ : Wd} {c : Nat} {x1 x2 : Int32} (hc : c ≤ 30) (h : τ.1 112 88 = I (c : Int)) (he : ∀ i, i < c → τ.1 112 (89 + 3 * i) = σ.1 (b + 1) i ∧ τ.1 112 (90 + 3 * i) = σ.1 (b + 2) i ∧ τ.1 112 (91 + 3 * i) = σ.1 (b + 3) i) :
    ∀ (r i n : Nat) (z : Int), z = (i : Int) → i + r = c → r < n →
      f_X7_bought_28 n x1 x2 (I z) τ = bd (f_X7_good (match fi (mt σ b x1 x2) r i with | some j => σ.1 (b + 3) j | none => I 0) τ) (fun r s => some (r, s))
  | 0, i, n + 1, z, hz, hi, _ => by
    have e88 : Int.toNat 88 = 88 := rfl
    unfold fi
    rw [f_X7_bought_28]
    simp (disch := omega) only [↓reduceIte, gd_t, bd_s, nm_W, nm_I, I_add, I_sub, I_mul, I_neg, I_le_t, I_le_f, I_lt_t, I_lt_f, I_eq_t, I_eq_f, I_inb', I_ix', Int.toNat_natCast, decide_true, decide_false, Bool.not_false, Bool.not_true, if_true, if_false, wi_eq, wi_eq', wi_ne, wi_row, wi_2, N0, N1, N2, N3, N4, N5, N6, N7, N8, N9, N10, N11, N12, N13, N14, N15, N16, N17, N18, N19, N20, N21, N22, N23, N24, N25, N26, N27, N28, N29, N30, N31, N32, N33, N34, N35, N36, N37, N38, N39, N40, N41, N42, N43, N45, N48, N57, N59, N88, N89, N97, N99, N120, N121, N122, N179, N200, N255, N300, N400, N880, N900, N999, N1019, N50000000, N100000000, N1000000000, N2147483647, N2147483648, e88, h]
  | r + 1, i, n + 1, z, hz, hi, hn => by
    subst hz
    have e88 : Int.toNat 88 = 88 := rfl
    have t1 : ((89 : Int) + 3 * (i : Int)).toNat = 89 + 3 * i := by omega
    have t2 : ((89 : Int) + 3 * (i : Int) + 1).toNat = 90 + 3 * i := by omega
    have t3 : ((89 : Int) + 3 * (i : Int) + 2).toNat = 91 + 3 * i := by omega
    obtain ⟨e1, e2, e3⟩ := he i (by omega)
    have ef : fi (mt σ b x1 x2) (r + 1) i = if mt σ b x1 x2 i then some i else fi (mt σ b x1 x2) r (i + 1) := rfl
    have ih := r_bought (x1 := x1) (x2 := x2) hc h he r (i + 1) n ((i : Int) + 1) (by omega) (by omega) (by omega)
    clear he
    by_cases c1 : σ.1 (b + 1) i = x1
    · by_cases c2 : σ.1 (b + 2) i = x2
      · have em : mt σ b x1 x2 i = true := decide_eq_true ⟨c1, c2⟩
        rw [em, if_pos rfl] at ef
        rw [ef, f_X7_bought_28]
        simp (disch := omega) only [↓reduceIte, gd_t, bd_s, nm_W, nm_I, I_add, I_sub, I_mul, I_neg, I_le_t, I_le_f, I_lt_t, I_lt_f, I_eq_t, I_eq_f, I_inb', I_ix', Int.toNat_natCast, decide_true, decide_false, Bool.not_false, Bool.not_true, if_true, if_false, wi_eq, wi_eq', wi_ne, wi_row, wi_2, N0, N1, N2, N3, N4, N5, N6, N7, N8, N9, N10, N11, N12, N13, N14, N15, N16, N17, N18, N19, N20, N21, N22, N23, N24, N25, N26, N27, N28, N29, N30, N31, N32, N33, N34, N35, N36, N37, N38, N39, N40, N41, N42, N43, N45, N48, N57, N59, N88, N89, N97, N99, N120, N121, N122, N179, N200, N255, N300, N400, N880, N900, N999, N1019, N50000000, N100000000, N1000000000, N2147483647, N2147483648, e88, h, t1, t2, t3, e1, e2, e3, if_pos c1, if_pos c2]
      · have em : mt σ b x1 x2 i = false := decide_eq_false (fun q => c2 q.2)
        rw [em, if_neg (show ¬ false = true by decide)] at ef
        rw [ef, ← ih, f_X7_bought_28]
        simp (disch := omega) only [↓reduceIte, gd_t, bd_s, nm_W, nm_I, I_add, I_sub, I_mul, I_neg, I_le_t, I_le_f, I_lt_t, I_lt_f, I_eq_t, I_eq_f, I_inb', I_ix', Int.toNat_natCast, decide_true, decide_false, Bool.not_false, Bool.not_true, if_true, if_false, wi_eq, wi_eq', wi_ne, wi_row, wi_2, N0, N1, N2, N3, N4, N5, N6, N7, N8, N9, N10, N11, N12, N13, N14, N15, N16, N17, N18, N19, N20, N21, N22, N23, N24, N25, N26, N27, N28, N29, N30, N31, N32, N33, N34, N35, N36, N37, N38, N39, N40, N41, N42, N43, N45, N48, N57, N59, N88, N89, N97, N99, N120, N121, N122, N179, N200, N255, N300, N400, N880, N900, N999, N1019, N50000000, N100000000, N1000000000, N2147483647, N2147483648, e88, h, t1, t2, e1, e2, if_pos c1, if_neg c2, f_X7_bought_87]
    · have em : mt σ b x1 x2 i = false := decide_eq_false (fun q => c1 q.1)
      rw [em, if_neg (show ¬ false = true by decide)] at ef
      rw [ef, ← ih, f_X7_bought_28]
      simp (disch := omega) only [↓reduceIte, gd_t, bd_s, nm_W, nm_I, I_add, I_sub, I_mul, I_neg, I_le_t, I_le_f, I_lt_t, I_lt_f, I_eq_t, I_eq_f, I_inb', I_ix', Int.toNat_natCast, decide_true, decide_false, Bool.not_false, Bool.not_true, if_true, if_false, wi_eq, wi_eq', wi_ne, wi_row, wi_2, N0, N1, N2, N3, N4, N5, N6, N7, N8, N9, N10, N11, N12, N13, N14, N15, N16, N17, N18, N19, N20, N21, N22, N23, N24, N25, N26, N27, N28, N29, N30, N31, N32, N33, N34, N35, N36, N37, N38, N39, N40, N41, N42, N43, N45, N48, N57, N59, N88, N89, N97, N99, N120, N121, N122, N179, N200, N255, N300, N400, N880, N900, N999, N1019, N50000000, N100000000, N1000000000, N2147483647, N2147483648, e88, h, t1, e1, if_neg c1, f_X7_bought_87]
theorem c_bought {b c : Nat} {σ : Wd} {x1 x2 : Int32} (hc : c ≤ 30) (h : σ.1 b 0 = I (c : Int)) : f_X2_unitsAt b x1 x2 σ = some (match fi (mt σ b x1 x2) c 0 with | some j => σ.1 (b + 3) j | none => I 0, σ) := by
  have ef := cFind (x1 := x1) (x2 := x2) hc h
  cases hf : fi (mt σ b x1 x2) c 0 with
  | none =>
    rw [hf] at ef
    unfold f_X2_unitsAt f_X2_unitsAt_22
    simp (disch := omega) only [↓reduceIte, gd_t, bd_s, nm_W, nm_I, I_add, I_sub, I_mul, I_neg, I_le_t, I_le_f, I_lt_t, I_lt_f, I_eq_t, I_eq_f, I_inb', I_ix', Int.toNat_natCast, decide_true, decide_false, Bool.not_false, Bool.not_true, if_true, if_false, wi_eq, wi_eq', wi_ne, wi_row, wi_2, N0, N1, N2, N3, N4, N5, N6, N7, N8, N9, N10, N11, N12, N13, N14, N15, N16, N17, N18, N19, N20, N21, N22, N23, N24, N25, N26, N27, N28, N29, N30, N31, N32, N33, N34, N35, N36, N37, N38, N39, N40, N41, N42, N43, N45, N48, N57, N59, N88, N89, N97, N99, N120, N121, N122, N179, N200, N255, N300, N400, N880, N900, N999, N1019, N50000000, N100000000, N1000000000, N2147483647, N2147483648, ef, fo]
  | some j =>
    obtain ⟨-, j2, -⟩ := fi_some c 0 hf
    rw [hf] at ef
    unfold f_X2_unitsAt f_X2_unitsAt_22
    simp (disch := omega) only [↓reduceIte, gd_t, bd_s, nm_W, nm_I, I_add, I_sub, I_mul, I_neg, I_le_t, I_le_f, I_lt_t, I_lt_f, I_eq_t, I_eq_f, I_inb', I_ix', Int.toNat_natCast, decide_true, decide_false, Bool.not_false, Bool.not_true, if_true, if_false, wi_eq, wi_eq', wi_ne, wi_row, wi_2, N0, N1, N2, N3, N4, N5, N6, N7, N8, N9, N10, N11, N12, N13, N14, N15, N16, N17, N18, N19, N20, N21, N22, N23, N24, N25, N26, N27, N28, N29, N30, N31, N32, N33, N34, N35, N36, N37, N38, N39, N40, N41, N42, N43, N45, N48, N57, N59, N88, N89, N97, N99, N120, N121, N122, N179, N200, N255, N300, N400, N880, N900, N999, N1019, N50000000, N100000000, N1000000000, N2147483647, N2147483648, ef, fo]
theorem m_bought (x y : Int32) : MT (f_X6_bought x y) (f_X7_bought x y) := by
  intro σ τ B ⟨m, V, E, pres, kp, d, p, L, W, dl, pl, et, b, t, s, rd, h, n, g, hG⟩ hB
  obtain ⟨v, rfl, hv⟩ := argI x
  obtain ⟨bm, m10, m63⟩ := bMm hG.1
  have hM0 := hG.2.2.1.1.1
  have h5 := hM0.1.1
  have c1 := cIsV (σ := σ) hv hG.2.1 bm hM0.2.1.1 h5
  have c2 := rIsV (τ := wi τ 102 0 (I 0)) (V := V) (x := bn pres) hv (by rw [wi_ne (by decide)]; exact hG.2.2.2.1.2.1) (bn_bnd _) (by rw [wi_ne (by decide)]; exact hM0.2.2.1.1) h5
  obtain ⟨x, σ', τ', k1, k2, k3, k4⟩ := run_ok (a := bn (decide (0 ≤ v ∧ v < (V : Int)))) (a' := bn (decide (bn pres = 1 ∧ 0 ≤ v ∧ v < (V : Int)))) (low := I (-1)) (K := fun σ4 => bd (f_X2_unitsAt 72 (I v) y σ4) fun r5 σ6 => some (r5, σ6)) (K' := fun σ5 => f_X7_bought_28 FU (I v) y (0 : Int32) σ5) (Rf := f_X7_refused)
    hG (bn_bnd _) (bn_bnd _) (isV_b rfl) (fun c τ => refR) (fun _ _ _ hQ => by
      obtain ⟨c, sl, l1, l2, l3, l4, -⟩ := hQ.2.2.2.2.2.1
      have e1 := c_bought (x1 := I v) (x2 := y) l1 l2
      have e2 := r_bought (x1 := I v) (x2 := y) (σ := wi σ 0 12 (I 0)) (b := 72) l1 l3 (fun i hi => ⟨(l4 i hi).2.2.2.1, (l4 i hi).2.2.2.2.1, (l4 i hi).2.2.2.2.2⟩) c 0 FU 0 rfl (by omega) (by show _ < 6000; omega)
      refine ⟨_, _, wi τ 102 0 (I 0), ?_, e2, QFr, RQr⟩
      show bd (f_X2_unitsAt 72 (I v) y (wi σ 0 12 (I 0))) _ = _
      rw [e1, bd_s])
  refine ⟨x, σ', τ', ?_, ?_, ⟨m, V, E, pres, kp, d, p, L, W, dl, pl, et, b, t, s, rd, h, n, g, GA_B k3 (by omega)⟩, k4⟩
  · unfold f_X6_bought
    rw [c1, bd_s]
    exact k1
  · unfold f_X7_bought
    rw [nm_W]
    show bd (f_X7_isVenue (I v) (wi τ 102 0 (I 0))) _ = _
    rw [c2, bd_s]
    exact k2
end
section
/-! PURE: level, entry -/
theorem c_isLevel {σ : Wd} {m : Nat} {v k a l : Int} (hm : σ.2.2 0 4 = m) (bm : bM m = true) (e1 : f_X6_isVenue (I v) σ = some (I a, σ)) (ha : 0 ≤ a ∧ a ≤ 1) (hk : R k) (v0 : a = 1 → 0 ≤ v ∧ v < 5) (h6 : a = 1 → σ.1 (m + 6) v.toNat = I l) (hl : 0 ≤ l ∧ l ≤ 6) : f_X6_isLevel (I v) (I k) σ = some (I (bn (decide (a = 1 ∧ 0 ≤ k ∧ k < l))), σ) := by
  unfold R at hk
  by_cases c1 : a = 0
  · rw [decide_eq_false (by omega), bn_f]
    unfold f_X6_isLevel f_X6_isLevel_29 f_X6_isLevel_30
    simp (disch := omega) only [↓reduceIte, gd_t, bd_s, nm_W, nm_I, I_add, I_sub, I_mul, I_neg, I_le_t, I_le_f, I_lt_t, I_lt_f, I_eq_t, I_eq_f, I_inb', I_ix', Int.toNat_natCast, decide_true, decide_false, Bool.not_false, Bool.not_true, if_true, if_false, wi_eq, wi_eq', wi_ne, wi_row, wi_2, N0, N1, N2, N3, N4, N5, N6, N7, N8, N9, N10, N11, N12, N13, N14, N15, N16, N17, N18, N19, N20, N21, N22, N23, N24, N25, N26, N27, N28, N29, N30, N31, N32, N33, N34, N35, N36, N37, N38, N39, N40, N41, N42, N43, N45, N48, N57, N59, N88, N89, N97, N99, N120, N121, N122, N179, N200, N255, N300, N400, N880, N900, N999, N1019, N50000000, N100000000, N1000000000, N2147483647, N2147483648, e1, isb_0]
  · have a1 : a = 1 := by omega
    have v0 := v0 a1
    have h6 := h6 a1
    by_cases c2 : k < 0
    · rw [decide_eq_false (by omega), bn_f]
      unfold f_X6_isLevel f_X6_isLevel_29 f_X6_isLevel_30
      simp (disch := omega) only [↓reduceIte, gd_t, bd_s, nm_W, nm_I, I_add, I_sub, I_mul, I_neg, I_le_t, I_le_f, I_lt_t, I_lt_f, I_eq_t, I_eq_f, I_inb', I_ix', Int.toNat_natCast, decide_true, decide_false, Bool.not_false, Bool.not_true, if_true, if_false, wi_eq, wi_eq', wi_ne, wi_row, wi_2, N0, N1, N2, N3, N4, N5, N6, N7, N8, N9, N10, N11, N12, N13, N14, N15, N16, N17, N18, N19, N20, N21, N22, N23, N24, N25, N26, N27, N28, N29, N30, N31, N32, N33, N34, N35, N36, N37, N38, N39, N40, N41, N42, N43, N45, N48, N57, N59, N88, N89, N97, N99, N120, N121, N122, N179, N200, N255, N300, N400, N880, N900, N999, N1019, N50000000, N100000000, N1000000000, N2147483647, N2147483648, e1, isb_0]
    · by_cases c3 : l ≤ k
      · rw [decide_eq_false (by omega), bn_f]
        unfold f_X6_isLevel f_X6_isLevel_29 f_X6_isLevel_30
        simp (disch := omega) only [↓reduceIte, gd_t, bd_s, nm_W, nm_I, I_add, I_sub, I_mul, I_neg, I_le_t, I_le_f, I_lt_t, I_lt_f, I_eq_t, I_eq_f, I_inb', I_ix', Int.toNat_natCast, decide_true, decide_false, Bool.not_false, Bool.not_true, if_true, if_false, wi_eq, wi_eq', wi_ne, wi_row, wi_2, N0, N1, N2, N3, N4, N5, N6, N7, N8, N9, N10, N11, N12, N13, N14, N15, N16, N17, N18, N19, N20, N21, N22, N23, N24, N25, N26, N27, N28, N29, N30, N31, N32, N33, N34, N35, N36, N37, N38, N39, N40, N41, N42, N43, N45, N48, N57, N59, N88, N89, N97, N99, N120, N121, N122, N179, N200, N255, N300, N400, N880, N900, N999, N1019, N50000000, N100000000, N1000000000, N2147483647, N2147483648, e1, hm, bm, h6, isb_0]
      · rw [decide_eq_true (by omega), bn_t]
        unfold f_X6_isLevel f_X6_isLevel_30
        simp (disch := omega) only [↓reduceIte, gd_t, bd_s, nm_W, nm_I, I_add, I_sub, I_mul, I_neg, I_le_t, I_le_f, I_lt_t, I_lt_f, I_eq_t, I_eq_f, I_inb', I_ix', Int.toNat_natCast, decide_true, decide_false, Bool.not_false, Bool.not_true, if_true, if_false, wi_eq, wi_eq', wi_ne, wi_row, wi_2, N0, N1, N2, N3, N4, N5, N6, N7, N8, N9, N10, N11, N12, N13, N14, N15, N16, N17, N18, N19, N20, N21, N22, N23, N24, N25, N26, N27, N28, N29, N30, N31, N32, N33, N34, N35, N36, N37, N38, N39, N40, N41, N42, N43, N45, N48, N57, N59, N88, N89, N97, N99, N120, N121, N122, N179, N200, N255, N300, N400, N880, N900, N999, N1019, N50000000, N100000000, N1000000000, N2147483647, N2147483648, e1, hm, bm, h6, isb_1]
theorem c_level {σ : Wd} {v k w a c : Int} (e1 : f_X6_isLevel (I v) (I k) σ = some (I a, σ)) (e2 : f_X6_within (I w) (I 0) (I 1) σ = some (I c, σ)) (ha : 0 ≤ a ∧ a ≤ 1) (hc : 0 ≤ c ∧ c ≤ 1) : f_X6_level (I v) (I k) (I w) σ = f_X6_level_24 (I v) (I k) (I w) (I (a * c)) σ := by
  unfold f_X6_level f_X6_level_23
  by_cases c1 : a = 0
  · simp (disch := omega) only [↓reduceIte, gd_t, bd_s, nm_W, nm_I, I_add, I_sub, I_mul, I_neg, I_le_t, I_le_f, I_lt_t, I_lt_f, I_eq_t, I_eq_f, I_inb', I_ix', Int.toNat_natCast, decide_true, decide_false, Bool.not_false, Bool.not_true, if_true, if_false, wi_eq, wi_eq', wi_ne, wi_row, wi_2, N0, N1, N2, N3, N4, N5, N6, N7, N8, N9, N10, N11, N12, N13, N14, N15, N16, N17, N18, N19, N20, N21, N22, N23, N24, N25, N26, N27, N28, N29, N30, N31, N32, N33, N34, N35, N36, N37, N38, N39, N40, N41, N42, N43, N45, N48, N57, N59, N88, N89, N97, N99, N120, N121, N122, N179, N200, N255, N300, N400, N880, N900, N999, N1019, N50000000, N100000000, N1000000000, N2147483647, N2147483648, e1]
    rw [c1, Int.zero_mul]
  · have a1 : a = 1 := by omega
    by_cases c2 : c = 0
    · simp (disch := omega) only [↓reduceIte, gd_t, bd_s, nm_W, nm_I, I_add, I_sub, I_mul, I_neg, I_le_t, I_le_f, I_lt_t, I_lt_f, I_eq_t, I_eq_f, I_inb', I_ix', Int.toNat_natCast, decide_true, decide_false, Bool.not_false, Bool.not_true, if_true, if_false, wi_eq, wi_eq', wi_ne, wi_row, wi_2, N0, N1, N2, N3, N4, N5, N6, N7, N8, N9, N10, N11, N12, N13, N14, N15, N16, N17, N18, N19, N20, N21, N22, N23, N24, N25, N26, N27, N28, N29, N30, N31, N32, N33, N34, N35, N36, N37, N38, N39, N40, N41, N42, N43, N45, N48, N57, N59, N88, N89, N97, N99, N120, N121, N122, N179, N200, N255, N300, N400, N880, N900, N999, N1019, N50000000, N100000000, N1000000000, N2147483647, N2147483648, e1, e2]
      rw [c2, Int.mul_zero]
    · simp (disch := omega) only [↓reduceIte, gd_t, bd_s, nm_W, nm_I, I_add, I_sub, I_mul, I_neg, I_le_t, I_le_f, I_lt_t, I_lt_f, I_eq_t, I_eq_f, I_inb', I_ix', Int.toNat_natCast, decide_true, decide_false, Bool.not_false, Bool.not_true, if_true, if_false, wi_eq, wi_eq', wi_ne, wi_row, wi_2, N0, N1, N2, N3, N4, N5, N6, N7, N8, N9, N10, N11, N12, N13, N14, N15, N16, N17, N18, N19, N20, N21, N22, N23, N24, N25, N26, N27, N28, N29, N30, N31, N32, N33, N34, N35, N36, N37, N38, N39, N40, N41, N42, N43, N45, N48, N57, N59, N88, N89, N97, N99, N120, N121, N122, N179, N200, N255, N300, N400, N880, N900, N999, N1019, N50000000, N100000000, N1000000000, N2147483647, N2147483648, e1, e2]
      rw [a1, show c = 1 from by omega]
      rfl
theorem level_1 {τ : Wd} {v k w : Int} (e : f_X7_isVenue (I v) (wi τ 102 0 (I 0)) = some (I 0, wi τ 102 0 (I 0))) : f_X7_level (I v) (I k) (I w) τ = some (I (-1), refW τ (I 1)) := by
  unfold f_X7_level refW f_X7_level_37
  simp (disch := omega) only [↓reduceIte, gd_t, bd_s, nm_W, nm_I, I_add, I_sub, I_mul, I_neg, I_le_t, I_le_f, I_lt_t, I_lt_f, I_eq_t, I_eq_f, I_inb', I_ix', Int.toNat_natCast, decide_true, decide_false, Bool.not_false, Bool.not_true, if_true, if_false, wi_eq, wi_eq', wi_ne, wi_row, wi_2, N0, N1, N2, N3, N4, N5, N6, N7, N8, N9, N10, N11, N12, N13, N14, N15, N16, N17, N18, N19, N20, N21, N22, N23, N24, N25, N26, N27, N28, N29, N30, N31, N32, N33, N34, N35, N36, N37, N38, N39, N40, N41, N42, N43, N45, N48, N57, N59, N88, N89, N97, N99, N120, N121, N122, N179, N200, N255, N300, N400, N880, N900, N999, N1019, N50000000, N100000000, N1000000000, N2147483647, N2147483648, e, refR]
theorem level_2 {τ : Wd} {v : Nat} {k w l a c : Int} (v5 : v < 5) (e : f_X7_isVenue (I (v : Int)) (wi τ 102 0 (I 0)) = some (I 1, wi τ 102 0 (I 0))) (h4 : τ.1 103 (5 * v + 4) = I l) (e2 : f_X7_in (I k) (I 0) (I (l - 1)) (wi τ 102 0 (I 0)) = some (I a, wi τ 102 0 (I 0))) (e3 : f_X7_in (I w) (I 0) (I 1) (wi τ 102 0 (I 0)) = some (I c, wi τ 102 0 (I 0))) (h : a = 0 ∨ (a = 1 ∧ c = 0)) : f_X7_level (I (v : Int)) (I k) (I w) τ = some (I (-1), refW τ (I 1)) := by
  have tv := levels7 (σ := wi τ 102 0 (I 0)) v5
  rw [wi_row (by decide), h4] at tv
  unfold f_X7_level refW f_X7_level_37
  rcases h with h | ⟨h, h2⟩
  · simp (disch := omega) only [↓reduceIte, gd_t, bd_s, nm_W, nm_I, I_add, I_sub, I_mul, I_neg, I_le_t, I_le_f, I_lt_t, I_lt_f, I_eq_t, I_eq_f, I_inb', I_ix', Int.toNat_natCast, decide_true, decide_false, Bool.not_false, Bool.not_true, if_true, if_false, wi_eq, wi_eq', wi_ne, wi_row, wi_2, N0, N1, N2, N3, N4, N5, N6, N7, N8, N9, N10, N11, N12, N13, N14, N15, N16, N17, N18, N19, N20, N21, N22, N23, N24, N25, N26, N27, N28, N29, N30, N31, N32, N33, N34, N35, N36, N37, N38, N39, N40, N41, N42, N43, N45, N48, N57, N59, N88, N89, N97, N99, N120, N121, N122, N179, N200, N255, N300, N400, N880, N900, N999, N1019, N50000000, N100000000, N1000000000, N2147483647, N2147483648, e, tv, e2, refR]
  · simp (disch := omega) only [↓reduceIte, gd_t, bd_s, nm_W, nm_I, I_add, I_sub, I_mul, I_neg, I_le_t, I_le_f, I_lt_t, I_lt_f, I_eq_t, I_eq_f, I_inb', I_ix', Int.toNat_natCast, decide_true, decide_false, Bool.not_false, Bool.not_true, if_true, if_false, wi_eq, wi_eq', wi_ne, wi_row, wi_2, N0, N1, N2, N3, N4, N5, N6, N7, N8, N9, N10, N11, N12, N13, N14, N15, N16, N17, N18, N19, N20, N21, N22, N23, N24, N25, N26, N27, N28, N29, N30, N31, N32, N33, N34, N35, N36, N37, N38, N39, N40, N41, N42, N43, N45, N48, N57, N59, N88, N89, N97, N99, N120, N121, N122, N179, N200, N255, N300, N400, N880, N900, N999, N1019, N50000000, N100000000, N1000000000, N2147483647, N2147483648, e, tv, e2, e3, refR]
theorem level_3 {τ : Wd} {v k : Nat} {w l x y : Int} (v5 : v < 5) (k6 : k < 6) (e : f_X7_isVenue (I (v : Int)) (wi τ 102 0 (I 0)) = some (I 1, wi τ 102 0 (I 0))) (h4 : τ.1 103 (5 * v + 4) = I l) (e2 : f_X7_in (I (k : Int)) (I 0) (I (l - 1)) (wi τ 102 0 (I 0)) = some (I 1, wi τ 102 0 (I 0))) (e3 : f_X7_in (I w) (I 0) (I 1) (wi τ 102 0 (I 0)) = some (I 1, wi τ 102 0 (I 0))) (hw : 0 ≤ w ∧ w ≤ 1) (hx : τ.1 104 (6 * v + k) = I x) (hy : τ.1 112 (6 * v + k) = I y) :
    f_X7_level (I (v : Int)) (I (k : Int)) (I w) τ = bd (f_X7_good (I (if w = 0 then x else y)) (wi τ 102 0 (I 0))) (fun r s => some (r, s)) := by
  have tv := levels7 (σ := wi τ 102 0 (I 0)) v5
  rw [wi_row (by decide), h4] at tv
  have p7 := price7 (σ := wi τ 102 0 (I 0)) v5 k6
  have s7 := size7 (σ := wi τ 102 0 (I 0)) v5 k6
  rw [wi_row (by decide), hx] at p7
  rw [wi_row (by decide), hy] at s7
  by_cases c : w = 0
  · rw [if_pos c]
    unfold f_X7_level f_X7_level_63
    simp (disch := omega) only [↓reduceIte, gd_t, bd_s, nm_W, nm_I, I_add, I_sub, I_mul, I_neg, I_le_t, I_le_f, I_lt_t, I_lt_f, I_eq_t, I_eq_f, I_inb', I_ix', Int.toNat_natCast, decide_true, decide_false, Bool.not_false, Bool.not_true, if_true, if_false, wi_eq, wi_eq', wi_ne, wi_row, wi_2, N0, N1, N2, N3, N4, N5, N6, N7, N8, N9, N10, N11, N12, N13, N14, N15, N16, N17, N18, N19, N20, N21, N22, N23, N24, N25, N26, N27, N28, N29, N30, N31, N32, N33, N34, N35, N36, N37, N38, N39, N40, N41, N42, N43, N45, N48, N57, N59, N88, N89, N97, N99, N120, N121, N122, N179, N200, N255, N300, N400, N880, N900, N999, N1019, N50000000, N100000000, N1000000000, N2147483647, N2147483648, e, tv, e2, e3, p7]
  · rw [if_neg c]
    unfold f_X7_level f_X7_level_63
    simp (disch := omega) only [↓reduceIte, gd_t, bd_s, nm_W, nm_I, I_add, I_sub, I_mul, I_neg, I_le_t, I_le_f, I_lt_t, I_lt_f, I_eq_t, I_eq_f, I_inb', I_ix', Int.toNat_natCast, decide_true, decide_false, Bool.not_false, Bool.not_true, if_true, if_false, wi_eq, wi_eq', wi_ne, wi_row, wi_2, N0, N1, N2, N3, N4, N5, N6, N7, N8, N9, N10, N11, N12, N13, N14, N15, N16, N17, N18, N19, N20, N21, N22, N23, N24, N25, N26, N27, N28, N29, N30, N31, N32, N33, N34, N35, N36, N37, N38, N39, N40, N41, N42, N43, N45, N48, N57, N59, N88, N89, N97, N99, N120, N121, N122, N179, N200, N255, N300, N400, N880, N900, N999, N1019, N50000000, N100000000, N1000000000, N2147483647, N2147483648, e, tv, e2, e3, s7]
theorem level_K {σ : Wd} {m v k : Nat} {w x y : Int} (v5 : v < 5) (k6 : k < 6) (hm : σ.2.2 0 4 = m) (bm : bM m = true) (hw : 0 ≤ w ∧ w ≤ 1) (hx : σ.1 (m + 8) (6 * v + k) = I x) (hy : σ.1 (m + 9) (6 * v + k) = I y) :
    (bd (f_X6_slot (I (v : Int)) (I (k : Int)) σ) fun r3 σ4 => if I w = 0 then (gd (bM (σ4.2.2 0 4)) (gd (inb r3 30) ((f_X6_level_68 (σ4.1 ((σ4.2.2 0 4) + 8) (ix r3)) σ4)))) else (gd (bM (σ4.2.2 0 4)) (gd (inb r3 30) ((f_X6_level_68 (σ4.1 ((σ4.2.2 0 4) + 9) (ix r3)) σ4))))) = some (I (if w = 0 then x else y), σ) := by
  have t1 : ((v : Int) * 6 + (k : Int)).toNat = 6 * v + k := by omega
  by_cases c : w = 0
  · have ei : (if w = 0 then x else y) = x := if_pos c
    rw [ei]
    simp (disch := omega) only [↓reduceIte, gd_t, bd_s, nm_W, nm_I, I_add, I_sub, I_mul, I_neg, I_le_t, I_le_f, I_lt_t, I_lt_f, I_eq_t, I_eq_f, I_inb', I_ix', Int.toNat_natCast, decide_true, decide_false, Bool.not_false, Bool.not_true, if_true, if_false, wi_eq, wi_eq', wi_ne, wi_row, wi_2, N0, N1, N2, N3, N4, N5, N6, N7, N8, N9, N10, N11, N12, N13, N14, N15, N16, N17, N18, N19, N20, N21, N22, N23, N24, N25, N26, N27, N28, N29, N30, N31, N32, N33, N34, N35, N36, N37, N38, N39, N40, N41, N42, N43, N45, N48, N57, N59, N88, N89, N97, N99, N120, N121, N122, N179, N200, N255, N300, N400, N880, N900, N999, N1019, N50000000, N100000000, N1000000000, N2147483647, N2147483648, f_X6_slot, hm, bm, t1, hx, f_X6_level_68]
  · have ei : (if w = 0 then x else y) = y := if_neg c
    rw [ei]
    simp (disch := omega) only [↓reduceIte, gd_t, bd_s, nm_W, nm_I, I_add, I_sub, I_mul, I_neg, I_le_t, I_le_f, I_lt_t, I_lt_f, I_eq_t, I_eq_f, I_inb', I_ix', Int.toNat_natCast, decide_true, decide_false, Bool.not_false, Bool.not_true, if_true, if_false, wi_eq, wi_eq', wi_ne, wi_row, wi_2, N0, N1, N2, N3, N4, N5, N6, N7, N8, N9, N10, N11, N12, N13, N14, N15, N16, N17, N18, N19, N20, N21, N22, N23, N24, N25, N26, N27, N28, N29, N30, N31, N32, N33, N34, N35, N36, N37, N38, N39, N40, N41, N42, N43, N45, N48, N57, N59, N88, N89, N97, N99, N120, N121, N122, N179, N200, N255, N300, N400, N880, N900, N999, N1019, N50000000, N100000000, N1000000000, N2147483647, N2147483648, f_X6_slot, hm, bm, t1, hy, f_X6_level_68]
theorem m_level (x y z : Int32) : MT (f_X6_level x y z) (f_X7_level x y z) := by
  intro σ τ B ⟨m, V, E, pres, kp, d, p, L, W, dl, pl, et, b, t, s, rd, h, n, g, hG⟩ hB
  obtain ⟨v, rfl, hv⟩ := argI x
  obtain ⟨k, rfl, hk⟩ := argI y
  obtain ⟨w, rfl, hw⟩ := argI z
  obtain ⟨bm, m10, m63⟩ := bMm hG.1
  have hM0 := hG.2.2.1.1.1
  have h5 := hM0.1.1
  have g21 : (wi τ 102 0 (I 0)).1 102 21 = I (bn pres) := by rw [wi_ne (by decide)]; exact hG.2.2.2.1.2.1
  have g14 : (wi τ 102 0 (I 0)).1 102 14 = I (V : Int) := by rw [wi_ne (by decide)]; exact hM0.2.2.1.1
  have c1 := cIsV (σ := σ) hv hG.2.1 bm hM0.2.1.1 h5
  obtain ⟨l, hl⟩ : ∃ l : Nat, l = if 0 ≤ v ∧ v < (V : Int) then d.lv v.toNat else 0 := ⟨_, rfl⟩
  have lb : l ≤ 6 := by
    split at hl
    · rw [hl]; exact lv6 hM0.1 _ (by omega)
    · omega
  have lv : 0 ≤ v ∧ v < (V : Int) → l = d.lv v.toNat := fun q => by rw [hl, if_pos q]
  have c2 := c_isLevel (k := k) (l := (l : Int)) hG.2.1 bm c1 (bn_bnd _) hk (fun q => by have := bn_1 q; omega) (fun q => by have y := bn_1 q; rw [lv y]; exact (hM0.2.1.2 v.toNat (by omega)).2.2.2.2.1) (by omega)
  have c3 := cWithin (σ := σ) (lo := 0) (hi := 1) hw (by unfold R; omega) (by unfold R; omega)
  have ri : ∀ l : Nat, l ≤ 6 → f_X7_in (I k) (I 0) (I ((l : Int) - 1)) (wi τ 102 0 (I 0)) = some (I (bn (decide (0 ≤ k ∧ k ≤ (l : Int) - 1))), wi τ 102 0 (I 0)) := fun l hl => rIn hk (by unfold R; omega) (by unfold R; omega)
  have rw' := rIn (σ := wi τ 102 0 (I 0)) (lo := 0) (hi := 1) hw (by unfold R; omega) (by unfold R; omega)
  obtain ⟨x, σ', τ', k1, k2, k3, k4⟩ := grq_ok (a := bn (decide (bn (decide (0 ≤ v ∧ v < (V : Int))) = 1 ∧ 0 ≤ k ∧ k < (l : Int)) && decide (0 ≤ w ∧ w ≤ 1))) (nn := 1) (ss := 1) (low := I (-1)) (K := fun σ2 => bd (f_X6_slot (I v) (I k) σ2) fun r3 σ4 => if I w = 0 then (gd (bM (σ4.2.2 0 4)) (gd (inb r3 30) ((f_X6_level_68 (σ4.1 ((σ4.2.2 0 4) + 8) (ix r3)) σ4)))) else (gd (bM (σ4.2.2 0 4)) (gd (inb r3 30) ((f_X6_level_68 (σ4.1 ((σ4.2.2 0 4) + 9) (ix r3)) σ4))))) (fr := f_X7_level (I v) (I k) (I w))
    hG (bn_bnd _) (by omega) (by omega)
    (fun hc => by
      rcases tc_cases (pres := pres) (a := bn (decide (bn (decide (0 ≤ v ∧ v < (V : Int))) = 1 ∧ 0 ≤ k ∧ k < (l : Int)) && decide (0 ≤ w ∧ w ≤ 1))) (n := 1) (s := 1) with ⟨q1, q2⟩ | ⟨q1, q2, q3⟩ | ⟨-, -, q2, -⟩ | ⟨-, -, -, q2, -⟩ | ⟨-, -, -, -, q2⟩
      · rw [q2]; exact level_1 (rIsV0 hv g21 (bn_bnd _) g14 h5 (Or.inl (by rw [q1]; rfl)))
      · rw [q3]
        by_cases y : 0 ≤ v ∧ v < (V : Int)
        · have ev := rIsV1 (τ := wi τ 102 0 (I 0)) (x := bn pres) hv g21 (by rw [q1]; rfl) g14 h5 y.1 y.2
          have lv := lv y
          obtain ⟨u, rfl⟩ := Int.eq_ofNat_of_zero_le y.1
          refine level_2 (l := (l : Int)) (by omega) ev (by rw [lv, Int.toNat_natCast]; exact (hM0.2.2.1.2 u (by omega)).2.2.2.2.1) (ri l lb) rw' ?_
          by_cases w1 : 0 ≤ k ∧ k ≤ (l : Int) - 1
          · rw [decide_eq_true y, decide_eq_true (show bn true = 1 ∧ 0 ≤ k ∧ k < (l : Int) from ⟨rfl, by omega, by omega⟩), Bool.true_and] at q2
            rw [decide_eq_true w1]
            exact Or.inr ⟨rfl, q2⟩
          · rw [decide_eq_false w1]
            exact Or.inl rfl
        · exact level_1 (rIsV0 hv g21 (bn_bnd _) g14 h5 (Or.inr y))
      · omega
      · omega
      · exact absurd q2 hc)
    (fun hp ha _ _ hM hR => by
      have q : (decide (bn (decide (0 ≤ v ∧ v < (V : Int))) = 1 ∧ 0 ≤ k ∧ k < (l : Int)) && decide (0 ≤ w ∧ w ≤ 1)) = true := by
        cases e : (decide (bn (decide (0 ≤ v ∧ v < (V : Int))) = 1 ∧ 0 ≤ k ∧ k < (l : Int)) && decide (0 ≤ w ∧ w ≤ 1)) with
        | true => rfl
        | false => rw [e] at ha; cases ha
      obtain ⟨q1, q2⟩ := Bool.and_eq_true_iff.mp q
      obtain ⟨q3, k0, kl⟩ := of_decide_eq_true q1
      have ww := of_decide_eq_true q2
      have y := bn_1 q3
      have ev := rIsV1 (τ := wi τ 102 0 (I 0)) (x := bn pres) hv g21 (by rw [hp]; rfl) g14 h5 y.1 y.2
      have lv := lv y
      obtain ⟨u, rfl⟩ := Int.eq_ofNat_of_zero_le y.1
      obtain ⟨j, rfl⟩ := Int.eq_ofNat_of_zero_le k0
      have hu : u < V := by omega
      rw [Int.toNat_natCast] at lv
      have hj : j < d.lv u := by omega
      obtain ⟨a1, a2⟩ := (hM.2.1.2 u hu).2.2.2.2.2 j hj
      obtain ⟨b1, b2⟩ := (hM0.2.2.1.2 u hu).2.2.2.2.2 j hj
      exact ⟨_, _, _, level_K (by omega) (by omega) (show (wi σ 0 12 (I 0)).2.2 0 4 = m from hG.2.1) bm ww a1 a2, level_3 (l := (l : Int)) (by omega) (by omega) ev (by rw [lv]; exact (hM0.2.2.1.2 u hu).2.2.2.2.1) (rIn1 hk (by unfold R; omega) (by unfold R; omega) ⟨by omega, by omega⟩) (rIn1 hw (by unfold R; omega) (by unfold R; omega) ww) ww b1 b2, QFr, RQr⟩)
  refine ⟨x, σ', τ', ?_, k2, ⟨m, V, E, pres, kp, d, p, L, W, dl, pl, et, b, t, s, rd, h, n, g, GA_B k3 (by omega)⟩, k4⟩
  rw [c_level c2 c3 (bn_bnd _) (bn_bnd _), bn_mul]
  exact k1
end
section
/-! PURE: move, planned -/
theorem move_1 {τ : Wd} {x : Int} (h : τ.1 102 21 = I x) (hx : x = 0) : f_X7_move τ = some (I (-1), refW τ (I 1)) := by
  unfold f_X7_move refW
  simp (disch := omega) only [↓reduceIte, gd_t, bd_s, nm_W, nm_I, I_add, I_sub, I_mul, I_neg, I_le_t, I_le_f, I_lt_t, I_lt_f, I_eq_t, I_eq_f, I_inb', I_ix', Int.toNat_natCast, decide_true, decide_false, Bool.not_false, Bool.not_true, if_true, if_false, wi_eq, wi_eq', wi_ne, wi_row, wi_2, N0, N1, N2, N3, N4, N5, N6, N7, N8, N9, N10, N11, N12, N13, N14, N15, N16, N17, N18, N19, N20, N21, N22, N23, N24, N25, N26, N27, N28, N29, N30, N31, N32, N33, N34, N35, N36, N37, N38, N39, N40, N41, N42, N43, N45, N48, N57, N59, N88, N89, N97, N99, N120, N121, N122, N179, N200, N255, N300, N400, N880, N900, N999, N1019, N50000000, N100000000, N1000000000, N2147483647, N2147483648, h, refR]
theorem move_5 {τ : Wd} {x y : Int} (h : τ.1 102 21 = I x) (hx : x = 1) (e : f_X7_canHavePlan (wi τ 102 0 (I 0)) = some (I y, wi τ 102 0 (I 0))) (hy : y = 0) : f_X7_move τ = some (I (-1), refW τ (I 5)) := by
  unfold f_X7_move refW
  simp (disch := omega) only [↓reduceIte, gd_t, bd_s, nm_W, nm_I, I_add, I_sub, I_mul, I_neg, I_le_t, I_le_f, I_lt_t, I_lt_f, I_eq_t, I_eq_f, I_inb', I_ix', Int.toNat_natCast, decide_true, decide_false, Bool.not_false, Bool.not_true, if_true, if_false, wi_eq, wi_eq', wi_ne, wi_row, wi_2, N0, N1, N2, N3, N4, N5, N6, N7, N8, N9, N10, N11, N12, N13, N14, N15, N16, N17, N18, N19, N20, N21, N22, N23, N24, N25, N26, N27, N28, N29, N30, N31, N32, N33, N34, N35, N36, N37, N38, N39, N40, N41, N42, N43, N45, N48, N57, N59, N88, N89, N97, N99, N120, N121, N122, N179, N200, N255, N300, N400, N880, N900, N999, N1019, N50000000, N100000000, N1000000000, N2147483647, N2147483648, h, e, refR]
theorem move_0 {τ : Wd} {x y : Int} (h : τ.1 102 21 = I x) (hx : x = 1) (e : f_X7_canHavePlan (wi τ 102 0 (I 0)) = some (I y, wi τ 102 0 (I 0))) (hy : y = 1) : f_X7_move τ = f_X7_move_38 FU (I (-2)) (I 0) (I 0) (wi τ 102 0 (I 0)) := by
  unfold f_X7_move
  simp (disch := omega) only [↓reduceIte, gd_t, bd_s, nm_W, nm_I, I_add, I_sub, I_mul, I_neg, I_le_t, I_le_f, I_lt_t, I_lt_f, I_eq_t, I_eq_f, I_inb', I_ix', Int.toNat_natCast, decide_true, decide_false, Bool.not_false, Bool.not_true, if_true, if_false, wi_eq, wi_eq', wi_ne, wi_row, wi_2, N0, N1, N2, N3, N4, N5, N6, N7, N8, N9, N10, N11, N12, N13, N14, N15, N16, N17, N18, N19, N20, N21, N22, N23, N24, N25, N26, N27, N28, N29, N30, N31, N32, N33, N34, N35, N36, N37, N38, N39, N40, N41, N42, N43, N45, N48, N57, N59, N88, N89, N97, N99, N120, N121, N122, N179, N200, N255, N300, N400, N880, N900, N999, N1019, N50000000, N100000000, N1000000000, N2147483647, N2147483648, h, e]
theorem QM_wi {m V : Nat} {σ τ : Wd} {d : MD} {p L W : Int} {dl pl : Nat → Int} (m10 : 10 < m) (h : QM m σ τ V d p L W dl pl) (c : Int32) : QM m (wi σ 0 12 c) (wi τ 102 0 (I 0)) V d p L W dl pl := QM_rows h (fun k a1 a2 => wi_row (by omega)) (fun i a1 a2 => wi_ne (by omega)) (wi_row (by decide)) (wi_row (by decide)) (fun i _ => by rw [wi_row (by decide)])
theorem QM_W {m V : Nat} {σ τ : Wd} {d : MD} {p L W : Int} {dl pl : Nat → Int} (h : QM m σ τ V d p L W dl pl) : R W := by
  have := h.2.2.2.2.2.1
  unfold R
  omega
theorem QM_pb {m V : Nat} {σ τ : Wd} {d : MD} {p L W : Int} {dl pl : Nat → Int} (h : QM m σ τ V d p L W dl pl) : PB pl V := fun v hv => (h.2.2.2.2.2.2.2 v hv).2.2
theorem ps2 {m V : Nat} {σ τ : Wd} {d : MD} {p L W : Int} {dl pl : Nat → Int} (h : QM m σ τ V d p L W dl pl) : f_X3_planStands m σ = some (I (bn (ps d p W pl V V 0)), σ) ∧ f_X7_canHavePlan τ = some (I (bn (ps d p W pl V V 0)), τ) :=
  ⟨cPS h.2.1 h.1 (QM_p h) h.2.2.2.1.1 h.2.2.2.2.2.1.1 (QM_W h) (QM_pb h) (fun v hv => (h.2.2.2.2.2.2.2 v hv).1), rPS h.2.2.1 h.1 (QM_p h) h.2.2.2.1.2.1 h.2.2.2.2.2.1.2.1 (QM_W h) (QM_pb h) (fun v hv => (h.2.2.2.2.2.2.2 v hv).2.1)⟩
theorem m_move : MT f_X6_move f_X7_move := by
  intro σ τ B ⟨m, V, E, pres, kp, d, p, L, W, dl, pl, et, b, t, s, rd, h, n, g, hG⟩ hB
  obtain ⟨bm, m10, m63⟩ := bMm hG.1
  have hM0 := hG.2.2.1.1.1
  have h5 := hM0.1.1
  have g21 := hG.2.2.2.1.2.1
  have e1 := (ps2 hM0).1
  have e2 := (ps2 (QM_wi m10 hM0 (I 0))).2
  obtain ⟨x, σ', τ', k1, k2, k3, k4⟩ := grq_ok (a := 1) (nn := 1) (ss := bn (ps d p W pl V V 0)) (low := I (-1)) (K := fun σ5 => f_X6_move_25 FU (I (-2)) (I 0) (I 0) σ5) (fr := f_X7_move)
    hG (by omega) (by omega) (bn_bnd _)
    (fun hc => by
      rcases tc_cases (pres := pres) (a := 1) (n := 1) (s := bn (ps d p W pl V V 0)) with ⟨q1, q2⟩ | ⟨-, q2, -⟩ | ⟨-, -, q2, -⟩ | ⟨q1, -, -, q2, q3⟩ | ⟨-, -, -, -, q2⟩
      · rw [q2]; exact move_1 g21 (by rw [q1]; rfl)
      · omega
      · omega
      · rw [q3]; exact move_5 g21 (by rw [q1]; rfl) e2 q2
      · exact absurd q2 hc)
    (fun hp _ _ hs hM hR => by
      have a := c_mv2 (σ := wi σ 0 12 (I 0)) hG.2.1 bm hM.2.1 hM.1 (QM_p hM) hM.2.2.2.1.1 (QM_pb hM) (fun v hv => (hM.2.2.2.2.2.2.2 v hv).1) V 0 FU 0 (-2, 0) rfl (by show _ < 6000; omega) (by omega) ⟨by decide, by decide⟩
      have c := r_mv2 (σ := wi τ 102 0 (I 0)) hM.2.2.1 hM.1 (QM_p hM) hM.2.2.2.1.2.1 (QM_pb hM) (fun v hv => (hM.2.2.2.2.2.2.2 v hv).2.1) V 0 FU 0 (-2, 0) rfl (by show _ < 6000; omega) (by omega) ⟨by decide, by decide⟩
      exact ⟨_, _, wi τ 102 0 (I 0), a, by rw [move_0 g21 (by rw [hp]; rfl) e2 hs]; exact c, QFr, RQr⟩)
  refine ⟨x, σ', τ', ?_, k2, ⟨m, V, E, pres, kp, d, p, L, W, dl, pl, et, b, t, s, rd, h, n, g, GA_B k3 (by omega)⟩, k4⟩
  unfold f_X6_move
  rw [hG.2.1, bm, gd_t, e1, bd_s]
  exact k1
theorem pc_0 {d : MD} {pl : Nat → Int} : ∀ (r v : Nat), (∀ w, v ≤ w → w < v + r → pl w = 0) → pc d pl r v = 0
  | 0, _, _ => rfl
  | r + 1, v, h => by
    unfold pc
    rw [h v (Nat.le_refl _) (by omega), cst_0, pc_0 r (v + 1) (fun w h1 h2 => h w (by omega) (by omega))]
    rfl
theorem pl_1 {τ : Wd} {x w a : Int} (h : τ.1 102 21 = I x) (e : f_X7_in (I w) (I 0) (I 2) (wi τ 102 0 (I 0)) = some (I a, wi τ 102 0 (I 0))) (hx : x = 0 ∨ (x = 1 ∧ a = 0)) : f_X7_planned (I w) τ = some (I (-2147483648), refW τ (I 1)) := by
  unfold f_X7_planned refW f_X7_planned_21
  rcases hx with hx | ⟨hx, ha⟩
  · simp (disch := omega) only [↓reduceIte, gd_t, bd_s, nm_W, nm_I, I_add, I_sub, I_mul, I_neg, I_le_t, I_le_f, I_lt_t, I_lt_f, I_eq_t, I_eq_f, I_inb', I_ix', Int.toNat_natCast, decide_true, decide_false, Bool.not_false, Bool.not_true, if_true, if_false, wi_eq, wi_eq', wi_ne, wi_row, wi_2, N0, N1, N2, N3, N4, N5, N6, N7, N8, N9, N10, N11, N12, N13, N14, N15, N16, N17, N18, N19, N20, N21, N22, N23, N24, N25, N26, N27, N28, N29, N30, N31, N32, N33, N34, N35, N36, N37, N38, N39, N40, N41, N42, N43, N45, N48, N57, N59, N88, N89, N97, N99, N120, N121, N122, N179, N200, N255, N300, N400, N880, N900, N999, N1019, N50000000, N100000000, N1000000000, N2147483647, N2147483648, h, refL]
  · simp (disch := omega) only [↓reduceIte, gd_t, bd_s, nm_W, nm_I, I_add, I_sub, I_mul, I_neg, I_le_t, I_le_f, I_lt_t, I_lt_f, I_eq_t, I_eq_f, I_inb', I_ix', Int.toNat_natCast, decide_true, decide_false, Bool.not_false, Bool.not_true, if_true, if_false, wi_eq, wi_eq', wi_ne, wi_row, wi_2, N0, N1, N2, N3, N4, N5, N6, N7, N8, N9, N10, N11, N12, N13, N14, N15, N16, N17, N18, N19, N20, N21, N22, N23, N24, N25, N26, N27, N28, N29, N30, N31, N32, N33, N34, N35, N36, N37, N38, N39, N40, N41, N42, N43, N45, N48, N57, N59, N88, N89, N97, N99, N120, N121, N122, N179, N200, N255, N300, N400, N880, N900, N999, N1019, N50000000, N100000000, N1000000000, N2147483647, N2147483648, h, e, refL]
theorem pl_5 {τ : Wd} {x w y : Int} (h : τ.1 102 21 = I x) (hx : x = 1) (e : f_X7_in (I w) (I 0) (I 2) (wi τ 102 0 (I 0)) = some (I 1, wi τ 102 0 (I 0))) (e2 : f_X7_canHavePlan (wi τ 102 0 (I 0)) = some (I y, wi τ 102 0 (I 0))) (hy : y = 0) : f_X7_planned (I w) τ = some (I (-2147483648), refW τ (I 5)) := by
  unfold f_X7_planned refW
  simp (disch := omega) only [↓reduceIte, gd_t, bd_s, nm_W, nm_I, I_add, I_sub, I_mul, I_neg, I_le_t, I_le_f, I_lt_t, I_lt_f, I_eq_t, I_eq_f, I_inb', I_ix', Int.toNat_natCast, decide_true, decide_false, Bool.not_false, Bool.not_true, if_true, if_false, wi_eq, wi_eq', wi_ne, wi_row, wi_2, N0, N1, N2, N3, N4, N5, N6, N7, N8, N9, N10, N11, N12, N13, N14, N15, N16, N17, N18, N19, N20, N21, N22, N23, N24, N25, N26, N27, N28, N29, N30, N31, N32, N33, N34, N35, N36, N37, N38, N39, N40, N41, N42, N43, N45, N48, N57, N59, N88, N89, N97, N99, N120, N121, N122, N179, N200, N255, N300, N400, N880, N900, N999, N1019, N50000000, N100000000, N1000000000, N2147483647, N2147483648, h, e, e2, refL]
theorem pl_a {τ : Wd} {x w y P : Int} (h : τ.1 102 21 = I x) (hx : x = 1) (e : f_X7_in (I w) (I 0) (I 2) (wi τ 102 0 (I 0)) = some (I 1, wi τ 102 0 (I 0))) (e2 : f_X7_canHavePlan (wi τ 102 0 (I 0)) = some (I y, wi τ 102 0 (I 0))) (hy : y = 1) (e3 : f_X7_planUnits (wi τ 102 0 (I 0)) = some (I P, wi τ 102 0 (I 0))) (hw : w = 0) : f_X7_planned (I w) τ = bd (f_X7_good (I P) (wi τ 102 0 (I 0))) (fun r s => some (r, s)) := by
  unfold f_X7_planned
  simp (disch := omega) only [↓reduceIte, gd_t, bd_s, nm_W, nm_I, I_add, I_sub, I_mul, I_neg, I_le_t, I_le_f, I_lt_t, I_lt_f, I_eq_t, I_eq_f, I_inb', I_ix', Int.toNat_natCast, decide_true, decide_false, Bool.not_false, Bool.not_true, if_true, if_false, wi_eq, wi_eq', wi_ne, wi_row, wi_2, N0, N1, N2, N3, N4, N5, N6, N7, N8, N9, N10, N11, N12, N13, N14, N15, N16, N17, N18, N19, N20, N21, N22, N23, N24, N25, N26, N27, N28, N29, N30, N31, N32, N33, N34, N35, N36, N37, N38, N39, N40, N41, N42, N43, N45, N48, N57, N59, N88, N89, N97, N99, N120, N121, N122, N179, N200, N255, N300, N400, N880, N900, N999, N1019, N50000000, N100000000, N1000000000, N2147483647, N2147483648, h, e, e2, e3]
theorem pl_b {τ : Wd} {x w y P C : Int} (h : τ.1 102 21 = I x) (hx : x = 1) (e : f_X7_in (I w) (I 0) (I 2) (wi τ 102 0 (I 0)) = some (I 1, wi τ 102 0 (I 0))) (e2 : f_X7_canHavePlan (wi τ 102 0 (I 0)) = some (I y, wi τ 102 0 (I 0))) (hy : y = 1) (e3 : f_X7_planUnits (wi τ 102 0 (I 0)) = some (I P, wi τ 102 0 (I 0))) (e4 : f_X7_planCost (wi τ 102 0 (I 0)) = some (I C, wi τ 102 0 (I 0))) (hw : w = 1) : f_X7_planned (I w) τ = bd (f_X7_good (I C) (wi τ 102 0 (I 0))) (fun r s => some (r, s)) := by
  unfold f_X7_planned
  simp (disch := omega) only [↓reduceIte, gd_t, bd_s, nm_W, nm_I, I_add, I_sub, I_mul, I_neg, I_le_t, I_le_f, I_lt_t, I_lt_f, I_eq_t, I_eq_f, I_inb', I_ix', Int.toNat_natCast, decide_true, decide_false, Bool.not_false, Bool.not_true, if_true, if_false, wi_eq, wi_eq', wi_ne, wi_row, wi_2, N0, N1, N2, N3, N4, N5, N6, N7, N8, N9, N10, N11, N12, N13, N14, N15, N16, N17, N18, N19, N20, N21, N22, N23, N24, N25, N26, N27, N28, N29, N30, N31, N32, N33, N34, N35, N36, N37, N38, N39, N40, N41, N42, N43, N45, N48, N57, N59, N88, N89, N97, N99, N120, N121, N122, N179, N200, N255, N300, N400, N880, N900, N999, N1019, N50000000, N100000000, N1000000000, N2147483647, N2147483648, h, e, e2, e3, e4]
theorem pl_c {τ : Wd} {x w y P : Int} (h : τ.1 102 21 = I x) (hx : x = 1) (e : f_X7_in (I w) (I 0) (I 2) (wi τ 102 0 (I 0)) = some (I 1, wi τ 102 0 (I 0))) (e2 : f_X7_canHavePlan (wi τ 102 0 (I 0)) = some (I y, wi τ 102 0 (I 0))) (hy : y = 1) (e3 : f_X7_planUnits (wi τ 102 0 (I 0)) = some (I P, wi τ 102 0 (I 0))) (hw : w = 2) (hP : P = 0) : f_X7_planned (I w) τ = bd (f_X7_good (I 0) (wi τ 102 0 (I 0))) (fun r s => some (r, s)) := by
  unfold f_X7_planned
  simp (disch := omega) only [↓reduceIte, gd_t, bd_s, nm_W, nm_I, I_add, I_sub, I_mul, I_neg, I_le_t, I_le_f, I_lt_t, I_lt_f, I_eq_t, I_eq_f, I_inb', I_ix', Int.toNat_natCast, decide_true, decide_false, Bool.not_false, Bool.not_true, if_true, if_false, wi_eq, wi_eq', wi_ne, wi_row, wi_2, N0, N1, N2, N3, N4, N5, N6, N7, N8, N9, N10, N11, N12, N13, N14, N15, N16, N17, N18, N19, N20, N21, N22, N23, N24, N25, N26, N27, N28, N29, N30, N31, N32, N33, N34, N35, N36, N37, N38, N39, N40, N41, N42, N43, N45, N48, N57, N59, N88, N89, N97, N99, N120, N121, N122, N179, N200, N255, N300, N400, N880, N900, N999, N1019, N50000000, N100000000, N1000000000, N2147483647, N2147483648, h, e, e2, e3]
theorem pl_d {τ τ1 : Wd} {x w y P C : Int} {D : Int32} (h : τ.1 102 21 = I x) (hx : x = 1) (e : f_X7_in (I w) (I 0) (I 2) (wi τ 102 0 (I 0)) = some (I 1, wi τ 102 0 (I 0))) (e2 : f_X7_canHavePlan (wi τ 102 0 (I 0)) = some (I y, wi τ 102 0 (I 0))) (hy : y = 1) (e3 : f_X7_planUnits (wi τ 102 0 (I 0)) = some (I P, wi τ 102 0 (I 0))) (hw : w = 2) (hP : 0 < P) (hP2 : P ≤ 120) (e4 : f_X7_laysBest (I P) (I (-1)) (wi τ 102 0 (I 0)) = some (0, τ1)) (e5 : f_X7_planCost τ1 = some (I C, τ1)) (e6 : τ1.1 102 38 = D) : f_X7_planned (I w) τ = bd (f_X7_good (I C - D) τ1) (fun r s => some (r, s)) := by
  unfold f_X7_planned
  simp (disch := omega) only [↓reduceIte, gd_t, bd_s, nm_W, nm_I, I_add, I_sub, I_mul, I_neg, I_le_t, I_le_f, I_lt_t, I_lt_f, I_eq_t, I_eq_f, I_inb', I_ix', Int.toNat_natCast, decide_true, decide_false, Bool.not_false, Bool.not_true, if_true, if_false, wi_eq, wi_eq', wi_ne, wi_row, wi_2, N0, N1, N2, N3, N4, N5, N6, N7, N8, N9, N10, N11, N12, N13, N14, N15, N16, N17, N18, N19, N20, N21, N22, N23, N24, N25, N26, N27, N28, N29, N30, N31, N32, N33, N34, N35, N36, N37, N38, N39, N40, N41, N42, N43, N45, N48, N57, N59, N88, N89, N97, N99, N120, N121, N122, N179, N200, N255, N300, N400, N880, N900, N999, N1019, N50000000, N100000000, N1000000000, N2147483647, N2147483648, h, e, e2, e3, e4, e5, e6]
theorem plK_a {σ : Wd} {m : Nat} {w P : Int} (hm : σ.2.2 0 4 = m) (bm : bM m = true) (e : f_X3_planUnits m σ = some (I P, σ)) (hw : w = 0) : (if I w = 0 then (gd (bM (σ.2.2 0 4)) (bd (f_X3_planUnits (σ.2.2 0 4) σ) fun r9 σ10 => some (r9, σ10))) else (if I w = (1 : Int32) then (gd (bM (σ.2.2 0 4)) (bd (f_X3_planCost (σ.2.2 0 4) σ) fun r12 σ13 => some (r12, σ13))) else (gd (bM (σ.2.2 0 4)) (gd (bM (σ.2.2 0 4)) (bd (f_X3_planUnits (σ.2.2 0 4) σ) fun r16 σ17 => bd (f_X1_choose (σ.2.2 0 4) r16 (-1 : Int32) σ17) fun _ σ18 => gd (bM (σ18.2.2 0 4)) (bd (f_X3_planCost (σ18.2.2 0 4) σ18) fun r20 σ21 => some (r20 - (σ21.1 4 1), σ21))))))) = some (I P, σ) := by
  rw [hm]
  simp (disch := omega) only [↓reduceIte, gd_t, bd_s, nm_W, nm_I, I_add, I_sub, I_mul, I_neg, I_le_t, I_le_f, I_lt_t, I_lt_f, I_eq_t, I_eq_f, I_inb', I_ix', Int.toNat_natCast, decide_true, decide_false, Bool.not_false, Bool.not_true, if_true, if_false, wi_eq, wi_eq', wi_ne, wi_row, wi_2, N0, N1, N2, N3, N4, N5, N6, N7, N8, N9, N10, N11, N12, N13, N14, N15, N16, N17, N18, N19, N20, N21, N22, N23, N24, N25, N26, N27, N28, N29, N30, N31, N32, N33, N34, N35, N36, N37, N38, N39, N40, N41, N42, N43, N45, N48, N57, N59, N88, N89, N97, N99, N120, N121, N122, N179, N200, N255, N300, N400, N880, N900, N999, N1019, N50000000, N100000000, N1000000000, N2147483647, N2147483648, bm, e]
theorem plK_b {σ : Wd} {m : Nat} {w C : Int} (hm : σ.2.2 0 4 = m) (bm : bM m = true) (e : f_X3_planCost m σ = some (I C, σ)) (hw : w = 1) : (if I w = 0 then (gd (bM (σ.2.2 0 4)) (bd (f_X3_planUnits (σ.2.2 0 4) σ) fun r9 σ10 => some (r9, σ10))) else (if I w = (1 : Int32) then (gd (bM (σ.2.2 0 4)) (bd (f_X3_planCost (σ.2.2 0 4) σ) fun r12 σ13 => some (r12, σ13))) else (gd (bM (σ.2.2 0 4)) (gd (bM (σ.2.2 0 4)) (bd (f_X3_planUnits (σ.2.2 0 4) σ) fun r16 σ17 => bd (f_X1_choose (σ.2.2 0 4) r16 (-1 : Int32) σ17) fun _ σ18 => gd (bM (σ18.2.2 0 4)) (bd (f_X3_planCost (σ18.2.2 0 4) σ18) fun r20 σ21 => some (r20 - (σ21.1 4 1), σ21))))))) = some (I C, σ) := by
  rw [hm]
  simp (disch := omega) only [↓reduceIte, gd_t, bd_s, nm_W, nm_I, I_add, I_sub, I_mul, I_neg, I_le_t, I_le_f, I_lt_t, I_lt_f, I_eq_t, I_eq_f, I_inb', I_ix', Int.toNat_natCast, decide_true, decide_false, Bool.not_false, Bool.not_true, if_true, if_false, wi_eq, wi_eq', wi_ne, wi_row, wi_2, N0, N1, N2, N3, N4, N5, N6, N7, N8, N9, N10, N11, N12, N13, N14, N15, N16, N17, N18, N19, N20, N21, N22, N23, N24, N25, N26, N27, N28, N29, N30, N31, N32, N33, N34, N35, N36, N37, N38, N39, N40, N41, N42, N43, N45, N48, N57, N59, N88, N89, N97, N99, N120, N121, N122, N179, N200, N255, N300, N400, N880, N900, N999, N1019, N50000000, N100000000, N1000000000, N2147483647, N2147483648, bm, e]
theorem plK_c {σ σ1 : Wd} {m : Nat} {w P C : Int} {D : Int32} (hm : σ.2.2 0 4 = m) (bm : bM m = true) (e : f_X3_planUnits m σ = some (I P, σ)) (hw : w = 2) (e2 : f_X1_choose m (I P) (I (-1)) σ = some (0, σ1)) (hm1 : σ1.2.2 0 4 = m) (e3 : f_X3_planCost m σ1 = some (I C, σ1)) (e4 : σ1.1 4 1 = D) : (if I w = 0 then (gd (bM (σ.2.2 0 4)) (bd (f_X3_planUnits (σ.2.2 0 4) σ) fun r9 σ10 => some (r9, σ10))) else (if I w = (1 : Int32) then (gd (bM (σ.2.2 0 4)) (bd (f_X3_planCost (σ.2.2 0 4) σ) fun r12 σ13 => some (r12, σ13))) else (gd (bM (σ.2.2 0 4)) (gd (bM (σ.2.2 0 4)) (bd (f_X3_planUnits (σ.2.2 0 4) σ) fun r16 σ17 => bd (f_X1_choose (σ.2.2 0 4) r16 (-1 : Int32) σ17) fun _ σ18 => gd (bM (σ18.2.2 0 4)) (bd (f_X3_planCost (σ18.2.2 0 4) σ18) fun r20 σ21 => some (r20 - (σ21.1 4 1), σ21))))))) = some (I C - D, σ1) := by
  rw [hm]
  simp (disch := omega) only [↓reduceIte, gd_t, bd_s, nm_W, nm_I, I_add, I_sub, I_mul, I_neg, I_le_t, I_le_f, I_lt_t, I_lt_f, I_eq_t, I_eq_f, I_inb', I_ix', Int.toNat_natCast, decide_true, decide_false, Bool.not_false, Bool.not_true, if_true, if_false, wi_eq, wi_eq', wi_ne, wi_row, wi_2, N0, N1, N2, N3, N4, N5, N6, N7, N8, N9, N10, N11, N12, N13, N14, N15, N16, N17, N18, N19, N20, N21, N22, N23, N24, N25, N26, N27, N28, N29, N30, N31, N32, N33, N34, N35, N36, N37, N38, N39, N40, N41, N42, N43, N45, N48, N57, N59, N88, N89, N97, N99, N120, N121, N122, N179, N200, N255, N300, N400, N880, N900, N999, N1019, N50000000, N100000000, N1000000000, N2147483647, N2147483648, bm, e, e2, hm1, e3, e4]
end
section
/-! PURE: planned -/
theorem m_planned (x : Int32) : MT (f_X6_planned x) (f_X7_planned x) := by
  intro σ τ B ⟨m, V, E, pres, kp, d, p, L, W, dl, pl, et, b, t, s, rd, h, n, g, hG⟩ hB
  obtain ⟨w, rfl, hw⟩ := argI x
  obtain ⟨bm, m10, m63⟩ := bMm hG.1
  have hM0 := hG.2.2.1.1.1
  have h5 := hM0.1.1
  have g21 := hG.2.2.2.1.2.1
  have e1 := (ps2 hM0).1
  have e2 := (ps2 (QM_wi m10 hM0 (I 0))).2
  have c1 := cWithin (σ := σ) (lo := 0) (hi := 2) hw (by unfold R; omega) (by unfold R; omega)
  have c2 := rIn (σ := wi τ 102 0 (I 0)) (lo := 0) (hi := 2) hw (by unfold R; omega) (by unfold R; omega)
  obtain ⟨x, σ', τ', k1, k2, k3, k4⟩ := grq_ok (a := bn (decide (0 ≤ w ∧ w ≤ 2))) (nn := 1) (ss := bn (ps d p W pl V V 0)) (low := I (-2147483648)) (K := fun σ7 => (if I w = 0 then (gd (bM (σ7.2.2 0 4)) (bd (f_X3_planUnits (σ7.2.2 0 4) σ7) fun r9 σ10 => some (r9, σ10))) else (if I w = (1 : Int32) then (gd (bM (σ7.2.2 0 4)) (bd (f_X3_planCost (σ7.2.2 0 4) σ7) fun r12 σ13 => some (r12, σ13))) else (gd (bM (σ7.2.2 0 4)) (gd (bM (σ7.2.2 0 4)) (bd (f_X3_planUnits (σ7.2.2 0 4) σ7) fun r16 σ17 => bd (f_X1_choose (σ7.2.2 0 4) r16 (-1 : Int32) σ17) fun _ σ18 => gd (bM (σ18.2.2 0 4)) (bd (f_X3_planCost (σ18.2.2 0 4) σ18) fun r20 σ21 => some (r20 - (σ21.1 4 1), σ21)))))))) (fr := f_X7_planned (I w))
    hG (bn_bnd _) (by omega) (bn_bnd _)
    (fun hc => by
      rcases tc_cases (pres := pres) (a := bn (decide (0 ≤ w ∧ w ≤ 2))) (n := 1) (s := bn (ps d p W pl V V 0)) with ⟨q1, q2⟩ | ⟨q1, q2, q3⟩ | ⟨-, -, q2, -⟩ | ⟨q1, q2, -, q3, q4⟩ | ⟨-, -, -, -, q2⟩
      · rw [q2]; exact pl_1 g21 c2 (Or.inl (by rw [q1]; rfl))
      · rw [q3]; exact pl_1 g21 c2 (Or.inr ⟨by rw [q1]; rfl, q2⟩)
      · omega
      · rw [q4]; exact pl_5 g21 (by rw [q1]; rfl) (rIn1 hw (by unfold R; omega) (by unfold R; omega) (bn_n0 q2)) e2 q3
      · exact absurd q2 hc)
    (fun hp ha _ hs hM hR => by
      have y := bn_1 ha
      have ri := rIn1 (σ := wi τ 102 0 (I 0)) (lo := 0) (hi := 2) hw (by unfold R; omega) (by unfold R; omega) y
      have x1 : bn pres = 1 := by rw [hp]; rfl
      have pt : ps d p W pl V V 0 = true := by
        cases e : ps d p W pl V V 0 with
        | true => rfl
        | false => rw [e] at hs; cases hs
      have pw := ps_pu V 0 pt
      have pb := pu_bnd (QM_pb hM) V 0 (by omega)
      have W1 := hM.2.2.2.2.2.1.2.2.2
      have hm : (wi σ 0 12 (I 0)).2.2 0 4 = m := hG.2.1
      have u1 := cPU hM.2.1.1 h5 (fun v hv => (hM.2.2.2.2.2.2.2 v hv).1)
      have u2 := rPU hM.2.2.1.1 h5 (fun v hv => (hM.2.2.2.2.2.2.2 v hv).2.1)
      rcases (show w = 0 ∨ w = 1 ∨ w = 2 by omega) with c | c | c
      · exact ⟨_, _, _, plK_a hm bm u1 c, pl_a g21 x1 ri e2 hs u2 c, QFr, RQr⟩
      · have v1 := cPC hM.2.1 hM.1 (QM_pb hM) (fun v hv => (hM.2.2.2.2.2.2.2 v hv).1)
        have v2 := rPC hM.2.2.1 hM.1 (QM_pb hM) (fun v hv => (hM.2.2.2.2.2.2.2 v hv).2.1)
        exact ⟨_, _, _, plK_b hm bm v1 c, pl_b g21 x1 ri e2 hs u2 v2 c, QFr, RQr⟩
      · obtain ⟨σ1, τ1, U, C, sh, f1, f2, f3, f4, ⟨f5, f5'⟩, f6, f7, f8, f9⟩ := best2 (but := -1) m10 hM pb.1 (by omega) (by unfold R; omega)
        have v1 := cPC f9.2.1 f9.1 (QM_pb f9) (fun v hv => (f9.2.2.2.2.2.2.2 v hv).1)
        have v2 := rPC f9.2.2.1 f9.1 (QM_pb f9) (fun v hv => (f9.2.2.2.2.2.2.2 v hv).2.1)
        have hm1 : σ1.2.2 0 4 = m := by rw [f7.2]; exact hm
        by_cases P0 : pu pl V 0 = 0
        · have z : ∀ w, 0 ≤ w → w < 0 + V → pl w = 0 := fun w _ hw => by
            have q := pu_ge (f := pl) (w := w) V 0 (fun w _ hw => (QM_pb hM w (by omega)).1) (by omega) (by omega)
            have := (QM_pb hM w (by omega)).1
            omega
          obtain ⟨σ1', a1, a2, a3, -⟩ := cChoose (q := 0) (but := -1) m10 hM.1 (QM_p hM) (by unfold R; omega) (by omega) hM.2.1 hM.2.2.2.1.1
          rw [P0] at f1
          have es : σ1' = σ1 := by
            have := a1.symm.trans f1
            cases this
            rfl
          rw [es, show bu (lcs d p (-1) V V) 0 = 0 from rfl, lcs_0, f5] at a3
          have k := plK_c hm bm u1 c (by rw [P0]; exact f1) hm1 v1 f5
          rw [pc_0 V 0 z, a3, show I 0 - I (enc 100000000 (some 0)) = I 0 from rfl] at k
          exact ⟨_, _, _, k, pl_c g21 x1 ri e2 hs u2 c P0, f7, RQr⟩
        · exact ⟨_, _, _, plK_c hm bm u1 c f1 hm1 v1 f5, pl_d g21 x1 ri e2 hs u2 c (by omega) (by omega) f2 v2 f5', f7, f8⟩)
  refine ⟨x, σ', τ', ?_, k2, ⟨m, V, E, pres, kp, d, p, L, W, dl, pl, et, b, t, s, rd, h, n, g, GA_B k3 (by omega)⟩, k4⟩
  unfold f_X6_planned
  rw [show (0 : Int32) = I 0 from rfl, show (2 : Int32) = I 2 from rfl, c1, bd_s, hG.2.1, bm, gd_t, e1, bd_s]
  exact k1
end
section
/-! PURE: acts -/
theorem act_ok {m V E : Nat} {σ τ : Wd} {pres kp : Bool} {d : MD} {p L W : Int} {dl pl et : Nat → Int} {b : Bool} {t s rd : Int} {h n g : Nat → Int} {B B' a nn ss : Int} {low : Int32} {K : Wd → Option (Int32 × Wd)} {fr : Wd → Option (Int32 × Wd)}
    (hG : GA m σ τ V E pres kp d p L W dl pl et b t s rd h n g B) (hB : B ≤ B') (ha : 0 ≤ a ∧ a ≤ 1) (hn : 0 ≤ nn ∧ nn ≤ 1) (hs : 0 ≤ ss ∧ ss ≤ 1)
    (hr0 : tc pres a nn ss ≠ 0 → fr τ = some (low, wi (wi (wi τ 102 0 (I 0)) 102 1 (I (tc pres a nn ss))) 102 2 (I (-1))))
    (hr1 : pres = true → a = 1 → nn = 1 → ss = 1 → ∃ (x : Int32) (σ' τ' : Wd), K (wi σ 0 12 (I 0)) = some (x, σ') ∧ fr τ = some (x, τ') ∧ GG σ' τ' B' ∧ CL_ (wi σ 0 12 (I 0)) σ' ∧ RL_ τ τ') :
    ∃ (x : Int32) (σ' τ' : Wd), (bd (f_X6_granted (I a) (I nn) (I ss) σ) fun r1 σ2 => if r1 = 0 then some (low, σ2) else K σ2) = some (x, σ') ∧ fr τ = some (x, τ') ∧ GG σ' τ' B' ∧ CL_ σ σ' ∧ RL_ τ τ' := by
  have g5 := hG.2.2.2.1.1
  have e1 := cGrant (σ := σ) g5 ha hn hs
  have cb := tc_b (pres := pres) (a := a) (n := nn) (s := ss)
  by_cases c0 : tc pres a nn ss = 0
  · obtain ⟨x1, x2, x3, x4⟩ := tc_0 c0
    rw [c0] at e1
    obtain ⟨x, σ', τ', k1, k2, k3, k4, k5⟩ := hr1 x1 (by omega) (by omega) (by omega)
    refine ⟨x, σ', τ', ?_, k2, k3, ⟨fun k hk => by rw [k4.1 k hk, wi_row (by omega)], by rw [k4.2, wi_2]⟩, k5⟩
    rw [e1, bd_s, decide_eq_true rfl, bn_t, if_neg (by decide)]
    exact k1
  · refine ⟨low, wi σ 0 12 (I (tc pres a nn ss)), _, ?_, hr0 c0, ?_, ⟨fun k hk => by rw [wi_row (by omega)], by rw [wi_2]⟩, ⟨fun k hk => by rw [wi_row (by omega), wi_row (by omega), wi_row (by omega)], by rw [wi_2, wi_2, wi_2]⟩⟩
    · rw [e1, bd_s, decide_eq_false c0, bn_f, if_pos (show I 0 = (0 : Int32) from rfl)]
    · exact ⟨m, V, E, pres, kp, d, p, L, W, dl, pl, et, b, t, s, rd, h, n, g, GA_B (GA_q (c := tc pres a nn ss) hG (fun k a1 a2 => wi_row a1) (fun i a1 => wi_ne a1) wi_2 (fun k a1 a2 => by rw [wi_row a1, wi_row a1, wi_row a1]) (fun i a1 a2 => by rw [wi_ne (by omega), wi_ne (by omega), wi_ne (by omega)]) wi_eq (by rw [wi_ne (by decide), wi_eq]) wi_eq cb) hB⟩
theorem GA_act {m V E : Nat} {σ τ σ' τ' : Wd} {pres kp : Bool} {d d' : MD} {p L W W' : Int} {dl pl pl' et : Nat → Int} {b b' : Bool} {t s rd t' s' rd' : Int} {h n g h' n' g' : Nat → Int} {B B' : Int} (hG : GA m σ τ V E pres kp d p L W dl pl et b t s rd h n g B) (hp : pres = true) (hB : B ≤ B')
    (hQ : QQ m 63 σ' τ' V E d' p L W' dl pl' et b' t' s' rd' h' n' g') (ht : t' ≤ B') (c1 : ∀ k, (1 ≤ k ∧ k < 4) ∨ (37 ≤ k ∧ k < 50) ∨ (76 ≤ k ∧ k < 89) → σ'.1 k = σ.1 k) (c2 : ∀ i, i ≠ 12 → σ'.1 0 i = σ.1 0 i) (c3 : σ'.2 = σ.2) (e1 : ∀ k, 103 ≤ k → k < 116 → k ≠ 112 → τ'.1 k = τ.1 k) (e2 : ∀ i, 3 ≤ i → i < 37 ∨ 39 < i → τ'.1 102 i = τ.1 102 i)
    (t1 : σ'.1 0 12 = I 0) (t2 : τ'.1 102 1 = I 0) (t3 : τ'.1 102 2 = I (-1)) : GA m σ' τ' V E pres kp d' p L W' dl pl' et b' t' s' rd' h' n' g' B' := by
  obtain ⟨g1, g2, -, ⟨g5, g6, g7⟩, ⟨g8, g9, g10⟩, ⟨g11, g12⟩, ⟨tp, p1, p2, p3, p4⟩⟩ := hG
  refine ⟨by rw [c3]; exact g1, by rw [c3]; exact g2, ⟨hQ, ht⟩, ⟨by rw [c2 10 (by decide)]; exact g5, by rw [e2 21 (by decide) (by decide)]; exact g6, fun q => by rw [hp] at q; cases q⟩,
    ⟨by rw [c2 11 (by decide)]; exact g8, by rw [e2 25 (by decide) (by decide)]; exact g9, fun q => ⟨hp, KK_congr (g10 q).2 hB (fun k a1 a2 => c1 k (by omega)) (fun k a1 a2 => c1 k (by omega)) (fun i a1 a2 => e2 i (by omega) (by omega)) (e1 103 (by decide) (by decide) (by decide)) (e1 104 (by decide) (by decide) (by decide)) (e1 105 (by decide) (by decide) (by decide)) (e1 113 (by decide) (by decide) (by decide))⟩⟩,
    ⟨⟨by rw [t1, t2], fun q => ?_, fun _ => t3⟩, by rw [c2 13 (by decide), e2 33 (by decide) (by decide)]; exact g12⟩, ⟨tp, p1, by rw [c1 1 (by decide)]; exact p2, by rw [e2 27 (by decide) (by decide)]; exact p3, fun i hi => by rw [c1 2 (by decide), e1 115 (by decide) (by decide) (by decide)]; exact p4 i hi⟩⟩
  rw [t1, I_eq (by unfold R; omega) (by unfold R; omega)] at q
  omega
theorem order_r {τ : Wd} {x q a y W : Int} (h : τ.1 102 21 = I x) (hx : 0 ≤ x ∧ x ≤ 1) (e : f_X7_in (I q) (I 1) (I 120) (wi τ 102 0 (I 0)) = some (I a, wi τ 102 0 (I 0))) (ha : 0 ≤ a ∧ a ≤ 1) (h36 : τ.1 112 36 = I y) (hy : 0 ≤ y ∧ y ≤ 1) (h35 : τ.1 112 35 = I W) :
    f_X7_order (I q) τ = if x = 0 then some (I (-1), refW τ (I 1)) else if a = 0 then some (I (-1), refW τ (I 2)) else if y = 1 then some (I (-1), refW τ (I 5)) else some (I W, wi (wi (wi (wi τ 102 0 (I 0)) 112 35 (I q)) 102 1 (I 0)) 102 2 (I (-1))) := by
  have w35 : Int.toNat 35 = 35 := rfl
  have w36 : Int.toNat 36 = 36 := rfl
  by_cases c1 : x = 0
  · rw [if_pos c1]
    unfold f_X7_order refW
    simp (disch := omega) only [↓reduceIte, gd_t, bd_s, nm_W, nm_I, I_add, I_sub, I_mul, I_neg, I_le_t, I_le_f, I_lt_t, I_lt_f, I_eq_t, I_eq_f, I_inb', I_ix', Int.toNat_natCast, decide_true, decide_false, Bool.not_false, Bool.not_true, if_true, if_false, wi_eq, wi_eq', wi_ne, wi_row, wi_2, N0, N1, N2, N3, N4, N5, N6, N7, N8, N9, N10, N11, N12, N13, N14, N15, N16, N17, N18, N19, N20, N21, N22, N23, N24, N25, N26, N27, N28, N29, N30, N31, N32, N33, N34, N35, N36, N37, N38, N39, N40, N41, N42, N43, N45, N48, N57, N59, N88, N89, N97, N99, N120, N121, N122, N179, N200, N255, N300, N400, N880, N900, N999, N1019, N50000000, N100000000, N1000000000, N2147483647, N2147483648, h, refR]
  · rw [if_neg c1]
    by_cases c2 : a = 0
    · rw [if_pos c2]
      unfold f_X7_order refW
      simp (disch := omega) only [↓reduceIte, gd_t, bd_s, nm_W, nm_I, I_add, I_sub, I_mul, I_neg, I_le_t, I_le_f, I_lt_t, I_lt_f, I_eq_t, I_eq_f, I_inb', I_ix', Int.toNat_natCast, decide_true, decide_false, Bool.not_false, Bool.not_true, if_true, if_false, wi_eq, wi_eq', wi_ne, wi_row, wi_2, N0, N1, N2, N3, N4, N5, N6, N7, N8, N9, N10, N11, N12, N13, N14, N15, N16, N17, N18, N19, N20, N21, N22, N23, N24, N25, N26, N27, N28, N29, N30, N31, N32, N33, N34, N35, N36, N37, N38, N39, N40, N41, N42, N43, N45, N48, N57, N59, N88, N89, N97, N99, N120, N121, N122, N179, N200, N255, N300, N400, N880, N900, N999, N1019, N50000000, N100000000, N1000000000, N2147483647, N2147483648, h, e, refR]
    · rw [if_neg c2]
      by_cases c3 : y = 1
      · rw [if_pos c3]
        unfold f_X7_order refW
        simp (disch := omega) only [↓reduceIte, gd_t, bd_s, nm_W, nm_I, I_add, I_sub, I_mul, I_neg, I_le_t, I_le_f, I_lt_t, I_lt_f, I_eq_t, I_eq_f, I_inb', I_ix', Int.toNat_natCast, decide_true, decide_false, Bool.not_false, Bool.not_true, if_true, if_false, wi_eq, wi_eq', wi_ne, wi_row, wi_2, N0, N1, N2, N3, N4, N5, N6, N7, N8, N9, N10, N11, N12, N13, N14, N15, N16, N17, N18, N19, N20, N21, N22, N23, N24, N25, N26, N27, N28, N29, N30, N31, N32, N33, N34, N35, N36, N37, N38, N39, N40, N41, N42, N43, N45, N48, N57, N59, N88, N89, N97, N99, N120, N121, N122, N179, N200, N255, N300, N400, N880, N900, N999, N1019, N50000000, N100000000, N1000000000, N2147483647, N2147483648, h, e, w36, h36, refR]
      · rw [if_neg c3]
        unfold f_X7_order
        simp (disch := omega) only [↓reduceIte, gd_t, bd_s, nm_W, nm_I, I_add, I_sub, I_mul, I_neg, I_le_t, I_le_f, I_lt_t, I_lt_f, I_eq_t, I_eq_f, I_inb', I_ix', Int.toNat_natCast, decide_true, decide_false, Bool.not_false, Bool.not_true, if_true, if_false, wi_eq, wi_eq', wi_ne, wi_row, wi_2, N0, N1, N2, N3, N4, N5, N6, N7, N8, N9, N10, N11, N12, N13, N14, N15, N16, N17, N18, N19, N20, N21, N22, N23, N24, N25, N26, N27, N28, N29, N30, N31, N32, N33, N34, N35, N36, N37, N38, N39, N40, N41, N42, N43, N45, N48, N57, N59, N88, N89, N97, N99, N120, N121, N122, N179, N200, N255, N300, N400, N880, N900, N999, N1019, N50000000, N100000000, N1000000000, N2147483647, N2147483648, h, e, w36, h36, w35, h35, goodR]
end
section
/-! PURE: order -/
theorem CV_c0 {m V : Nat} {σ : Wd} {d : MD} {x : Int32} (h : CV m σ V d) : CV m (wi σ m 0 x) V d := by
  unfold CV at h ⊢
  rw [wi_ne (show 3 ≠ 0 by decide), wi_row (show m + 1 ≠ m by omega), wi_row (show m + 2 ≠ m by omega), wi_row (show m + 3 ≠ m by omega), wi_row (show m + 4 ≠ m by omega), wi_row (show m + 6 ≠ m by omega), wi_row (show m + 8 ≠ m by omega), wi_row (show m + 9 ≠ m by omega)]
  exact h
theorem c_order {σ : Wd} {q a : Int} {b : Bool} (e : f_X6_within (I q) (I 1) (I 120) σ = some (I a, σ)) (h : σ.1 63 0 = I (bn b)) : f_X6_order (I q) σ = f_X6_order_24 (I q) (I 1) (I a) (I (bn (!b))) σ := by
  cases b with
  | false =>
    have h : σ.1 63 0 = (0 : Int32) := h
    unfold f_X6_order
    rw [show (1 : Int32) = I 1 from rfl, show (120 : Int32) = I 120 from rfl, e, bd_s, if_pos h]
    rfl
  | true =>
    have h : ¬ σ.1 63 0 = (0 : Int32) := by rw [h]; decide
    unfold f_X6_order
    rw [show (1 : Int32) = I 1 from rfl, show (120 : Int32) = I 120 from rfl, e, bd_s, if_neg h]
    rfl
theorem m_order (x : Int32) : MT (f_X6_order x) (f_X7_order x) := by
  intro σ τ B ⟨m, V, E, pres, kp, d, p, L, W, dl, pl, et, b, t, s, rd, h, n, g, hG⟩ hB
  obtain ⟨q, rfl, hq⟩ := argI x
  obtain ⟨bm, m10, m63⟩ := bMm hG.1
  have hQ := hG.2.2.1.1
  have c1 := cWithin (σ := σ) (lo := 1) (hi := 120) hq (by unfold R; omega) (by unfold R; omega)
  have c2 := rIn (σ := wi τ 102 0 (I 0)) (lo := 1) (hi := 120) hq (by unfold R; omega) (by unfold R; omega)
  have er := order_r (q := q) hG.2.2.2.1.2.1 (bn_bnd pres) c2 (bn_bnd _) hQ.2.2.1.1.2 (bn_bnd b) hQ.1.2.2.2.2.2.1.2.1
  obtain ⟨x, σ', τ', k1, k2, k3⟩ := act_ok (B' := B + 200) (a := 1) (nn := bn (decide (1 ≤ q ∧ q ≤ 120))) (ss := bn (!b)) (low := I (-1)) (K := fun σ2 => gd (bM (σ2.2.2 0 4)) (gd (bM (σ2.2.2 0 4)) (nmW (wi σ2 (σ2.2.2 0 4) 0 (I q)) fun σ5 => some (σ2.1 (σ2.2.2 0 4) 0, σ5)))) (fr := f_X7_order (I q))
    hG (by omega) (by omega) (bn_bnd _) (bn_bnd _)
    (fun hc => by
      rw [er]
      rcases tc_cases (pres := pres) (a := 1) (n := bn (decide (1 ≤ q ∧ q ≤ 120))) (s := bn (!b)) with ⟨q1, q2⟩ | ⟨-, q2, -⟩ | ⟨q1, -, q2, q3⟩ | ⟨q1, -, q2, q3, q4⟩ | ⟨-, -, -, -, q2⟩
      · rw [q2, if_pos (by rw [q1]; rfl)]; rfl
      · omega
      · rw [q3, if_neg (by rw [q1]; decide), if_pos q2]; rfl
      · rw [q4, if_neg (by rw [q1]; decide), if_neg q2, if_pos (by cases b with
          | true => rfl
          | false => cases q3)]; rfl
      · exact absurd q2 hc)
    (fun hp _ hn hs => by
      have y := bn_1 hn
      have m24 : m = 11 ∨ m = 24 := by have := hG.1; omega
      have bf : b = false := by
        cases e : b with
        | true => rw [e] at hs; cases hs
        | false => rfl
      subst bf
      rw [if_neg (by rw [hp]; decide), if_neg (by omega), if_neg (by decide)] at er
      have hm : (wi σ 0 12 (I 0)).2.2 0 4 = m := hG.2.1
      obtain ⟨hM, hE, hR, hN, hP, hL, hn, hrd, hb, hz⟩ := hQ
      obtain ⟨a1, a2, a3, a4, a5, a6, a7, a8⟩ := hM
      obtain ⟨τ', hτ'⟩ : ∃ x, x = wi (wi (wi (wi τ 102 0 (I 0)) 112 35 (I q)) 102 1 (I 0)) 102 2 (I (-1)) := ⟨_, rfl⟩
      obtain ⟨σ', hσ'⟩ : ∃ x, x = wi (wi σ 0 12 (I 0)) m 0 (I q) := ⟨_, rfl⟩
      have fc : ∀ k, k ≠ 0 → k ≠ m → σ'.1 k = σ.1 k := fun k g1 g2 => by rw [hσ', wi_row g2, wi_row g1]
      have fm : ∀ i, i ≠ 0 → σ'.1 m i = σ.1 m i := fun i g1 => by rw [hσ', wi_ne g1, wi_row (by omega)]
      have fk : ∀ k, k ≠ 102 → k ≠ 112 → τ'.1 k = τ.1 k := fun k g1 g2 => by rw [hτ', wi_row g1, wi_row g1, wi_row g2, wi_row g1]
      have f2 : ∀ i, 3 ≤ i → τ'.1 102 i = τ.1 102 i := fun i g1 => by rw [hτ', wi_ne (by omega), wi_ne (by omega), wi_row (by decide), wi_ne (by omega)]
      have fx : ∀ i, i ≠ 35 → τ'.1 112 i = τ.1 112 i := fun i g1 => by rw [hτ', wi_row (by decide), wi_row (by decide), wi_ne g1, wi_row (by decide)]
      have h5 := a1.1
      have QQ' : QQ m 63 σ' τ' V E d p L q dl pl et false t s rd h n g := by
        refine ⟨⟨a1, ?_, RV_cells a3 h5 (lv6 a1) (f2 14 (by decide)) (fk 103 (by decide) (by decide)) (fk 104 (by decide) (by decide)) (fun i hi => fx i (by omega)), ?_, ?_, ⟨by rw [hσ', wi_eq], by rw [hτ', wi_row (by decide), wi_row (by decide), wi_eq], by omega, y.2⟩, fun v hv => ?_, fun v hv => ?_⟩, QE_congr hE (fm 4 (by decide)) (fc _ (by omega) (by omega)) (fc _ (by omega) (by omega)) (fc _ (by omega) (by omega)) (f2 15 (by decide)) (fk 105 (by decide) (by decide)),
          QR_rows hR (fun i _ => by rw [fc 63 (by decide) (by omega)]) (fun i _ _ => fx i (by omega)) (by rw [fc 63 (by decide) (by omega), fx 42 (by decide)]; exact hR.2.2.2.2.2.2), ?_, fun w hw => QP_congr (hP w hw) (fun k g1 g2 => by rw [fc k (by omega) (by omega)]) (fun i g1 g2 => fx i (by omega)) (fk 103 (by decide) (by decide)), LR_congr hL rfl rfl (fun k g1 g2 => fc k (by omega) (by omega)) (fun i hi => fx i (by omega)), hn, by rw [fc 63 (by decide) (by omega)]; exact hrd, hb, fun q => ⟨(hz q).1, fun q => by cases q⟩⟩
        · rw [hσ']
          exact CV_c0 (CV_rows a2 (fun k g1 g2 => wi_row (by omega)))
        · rw [fm 1 (by decide), f2 12 (by decide)]; exact a4
        · rw [fm 2 (by decide), f2 13 (by decide)]; exact a5
        · rw [fc (m + 5) (by omega) (by omega), fk 103 (by decide) (by decide)]; exact a7 v hv
        · rw [fc (m + 7) (by omega) (by omega), fx (43 + v) (by omega)]; exact a8 v hv
        · obtain ⟨np, n1, n2⟩ := hN
          exact ⟨np, by rw [fc 63 (by decide) (by omega)]; exact n1, n2⟩
      refine ⟨I W, σ', τ', ?_, by rw [er, hτ'], ⟨m, V, E, pres, kp, d, p, L, q, dl, pl, et, false, t, s, rd, h, n, g, GA_act hG hp (by omega) QQ' (by have := hG.2.2.1.2; omega) (fun k hk => fc k (by omega) (by omega)) (fun i hi => by rw [hσ', wi_row (by omega), wi_ne hi]) (by rw [hσ', wi_2, wi_2]) (fun k g1 g2 g3 => fk k (by omega) g3) (fun i g1 _ => f2 i g1) (by rw [hσ', wi_row (by omega), wi_eq]) (by rw [hτ', wi_ne (by decide), wi_eq]) (by rw [hτ', wi_eq])⟩, ⟨fun k hk => by rw [hσ', wi_row (by omega)], by rw [hσ', wi_2]⟩, ⟨fun k hk => fk k (by omega) (by omega), by rw [hτ', wi_2, wi_2, wi_2, wi_2]⟩⟩
      show gd (bM ((wi σ 0 12 (I 0)).2.2 0 4)) (gd (bM ((wi σ 0 12 (I 0)).2.2 0 4)) (nmW (wi (wi σ 0 12 (I 0)) ((wi σ 0 12 (I 0)).2.2 0 4) 0 (I q)) fun σ5 => some ((wi σ 0 12 (I 0)).1 ((wi σ 0 12 (I 0)).2.2 0 4) 0, σ5))) = _
      rw [hm, bm, gd_t, gd_t, nm_W, wi_row (by omega), a6.1, hσ'])
  refine ⟨x, σ', τ', ?_, k2, k3⟩
  rw [c_order c1 hQ.2.2.1.1.1]
  exact k1
end
section
/-! PURE: keep -/
theorem keep_r0 {τ : Wd} {x : Int} (h : τ.1 102 21 = I x) (hx : x = 0) : f_X7_keep τ = some (I 0, refW τ (I 1)) := by
  unfold f_X7_keep refW
  simp (disch := omega) only [↓reduceIte, gd_t, bd_s, nm_W, nm_I, I_add, I_sub, I_mul, I_neg, I_le_t, I_le_f, I_lt_t, I_lt_f, I_eq_t, I_eq_f, I_inb', I_ix', Int.toNat_natCast, decide_true, decide_false, Bool.not_false, Bool.not_true, if_true, if_false, wi_eq, wi_eq', wi_ne, wi_row, wi_2, N0, N1, N2, N3, N4, N5, N6, N7, N8, N9, N10, N11, N12, N13, N14, N15, N16, N17, N18, N19, N20, N21, N22, N23, N24, N25, N26, N27, N28, N29, N30, N31, N32, N33, N34, N35, N36, N37, N38, N39, N40, N41, N42, N43, N45, N48, N57, N59, N88, N89, N97, N99, N120, N121, N122, N179, N200, N255, N300, N400, N880, N900, N999, N1019, N50000000, N100000000, N1000000000, N2147483647, N2147483648, h, refR, isb_0]
theorem keep_r1 {τ τ1 : Wd} {x : Int} (h : τ.1 102 21 = I x) (hx : x = 1) (e : f_X7_copies 112 179 113 179 (wi τ 102 0 (I 0)) = some (0, τ1)) : f_X7_keep τ = some (I 1, wi (wi (wi τ1 102 25 (I 1)) 102 1 (I 0)) 102 2 (I (-1))) := by
  unfold f_X7_keep
  simp (disch := omega) only [↓reduceIte, gd_t, bd_s, nm_W, nm_I, I_add, I_sub, I_mul, I_neg, I_le_t, I_le_f, I_lt_t, I_lt_f, I_eq_t, I_eq_f, I_inb', I_ix', Int.toNat_natCast, decide_true, decide_false, Bool.not_false, Bool.not_true, if_true, if_false, wi_eq, wi_eq', wi_ne, wi_row, wi_2, N0, N1, N2, N3, N4, N5, N6, N7, N8, N9, N10, N11, N12, N13, N14, N15, N16, N17, N18, N19, N20, N21, N22, N23, N24, N25, N26, N27, N28, N29, N30, N31, N32, N33, N34, N35, N36, N37, N38, N39, N40, N41, N42, N43, N45, N48, N57, N59, N88, N89, N97, N99, N120, N121, N122, N179, N200, N255, N300, N400, N880, N900, N999, N1019, N50000000, N100000000, N1000000000, N2147483647, N2147483648, h, e, isb_1, goodR]
theorem m_keep : MT f_X6_keep f_X7_keep := by
  intro σ τ B ⟨m, V, E, pres, kp, d, p, L, W, dl, pl, et, b, t, s, rd, h, n, g, hG⟩ hB
  obtain ⟨bm, m10, m63⟩ := bMm hG.1
  have m24 : m = 11 ∨ m = 24 := by have := hG.1; omega
  have hQ := hG.2.2.1.1
  obtain ⟨x, σ', τ', k1, k2, k3⟩ := act_ok (B' := B + 200) (a := 1) (nn := 1) (ss := 1) (low := I 0) (K := fun σ2 => gd (bM (σ2.2.2 0 4)) (bd (f_X3_copyFrom 37 (σ2.2.2 0 4) σ2) fun _ σ4 => bd (f_X4_copyFrom 76 63 σ4) fun _ σ5 => gd (isb (1 : Int32)) (nmW (wi σ5 0 11 (1 : Int32)) fun σ6 => gd (isb (1 : Int32)) (some ((1 : Int32), σ6))))) (fr := f_X7_keep)
    hG (by omega) (by omega) (by omega) (by omega)
    (fun hc => by
      rcases tc_cases (pres := pres) (a := 1) (n := 1) (s := 1) with ⟨q1, q2⟩ | ⟨-, q2, -⟩ | ⟨-, -, q2, -⟩ | ⟨-, -, -, q2, -⟩ | ⟨-, -, -, -, q2⟩
      · rw [q2]; exact keep_r0 hG.2.2.2.1.2.1 (by rw [q1]; rfl)
      · omega
      · omega
      · omega
      · exact absurd q2 hc)
    (fun hp _ _ _ => by
      have hm : (wi σ 0 12 (I 0)).2.2 0 4 = m := hG.2.1
      obtain ⟨σ1, a1, a2, a3, a4, a5, a6, a7⟩ := cCopyM (b := 37) (m := m) (σ := wi σ 0 12 (I 0)) (by omega)
      obtain ⟨σ2, b1, b2, b3, b4, b5, b6, b7⟩ := cCopyR (b := 76) (r := 63) (σ := σ1) (x := b) (by omega) (by rw [a6 63 (by omega), wi_row (by decide)]; exact hQ.2.2.1.1.1)
      obtain ⟨τ1, c1, c2, c3, c4⟩ := rCopy (a := 112) (b := 113) (τ := wi τ 102 0 (I 0)) (by decide)
      obtain ⟨σ', hσ'⟩ : ∃ x, x = wi σ2 0 11 (I 1) := ⟨_, rfl⟩
      obtain ⟨τ', hτ'⟩ : ∃ x, x = wi (wi (wi τ1 102 25 (I 1)) 102 1 (I 0)) 102 2 (I (-1)) := ⟨_, rfl⟩
      have fc : ∀ k, k ≠ 0 → k < 37 ∨ 49 < k → k < 76 ∨ 88 < k → σ'.1 k = σ.1 k := fun k g1 g2 g3 => by rw [hσ', wi_row g1, b6 k (by omega), a6 k (by omega), wi_row g1]
      have f0 : ∀ i, i ≠ 11 → i ≠ 12 → σ'.1 0 i = σ.1 0 i := fun i g1 g2 => by rw [hσ', wi_ne g1, b6 0 (by omega), a6 0 (by omega), wi_ne g2]
      have ek : ∀ k, k ≠ 102 → k ≠ 113 → τ'.1 k = τ.1 k := fun k g1 g2 => by rw [hτ', wi_row g1, wi_row g1, wi_row g1, c3 k g2, wi_row g1]
      have e2 : ∀ i, 3 ≤ i → i ≠ 25 → τ'.1 102 i = τ.1 102 i := fun i g1 g2 => by rw [hτ', wi_ne (by omega), wi_ne (by omega), wi_ne g2, c3 102 (by decide), wi_ne (by omega)]
      have e13 : ∀ i, i < 179 → τ'.1 113 i = τ.1 112 i := fun i hi => by rw [hτ', wi_row (by decide), wi_row (by decide), wi_row (by decide), c2 i hi, wi_row (by decide)]
      have QA : QQ m 63 σ' τ' V E d p L W dl pl et b t s rd h n g := QQ_congr hQ (by omega) (fun k g1 g2 => fc k (by omega) (by omega) (by omega)) (fun k g1 g2 => fc k (by omega) (by omega) (by omega)) (fun i g1 g2 => e2 i (by omega) (by omega)) (ek 103 (by decide) (by decide)) (ek 104 (by decide) (by decide)) (ek 105 (by decide) (by decide)) (ek 112 (by decide) (by decide))
      have s37 : ∀ k, 37 ≤ k → k ≤ 49 → σ'.1 k = σ1.1 k := fun k g1 g2 => by rw [hσ', wi_row (by omega), b6 k (by omega)]
      have s76 : ∀ k, 76 ≤ k → k ≤ 88 → σ'.1 k = σ2.1 k := fun k g1 g2 => by rw [hσ', wi_row (by omega)]
      have so : ∀ k, k ≠ 0 → (wi σ 0 12 (I 0)).1 k = σ.1 k := fun k hk => wi_row hk
      have sr : ∀ k, 63 ≤ k → k ≤ 75 → σ1.1 k = σ.1 k := fun k g1 g2 => by rw [a6 k (by omega), so k (by omega)]
      have QK : QQ 37 76 σ' (wc τ' 112 (τ'.1 113)) V E d p L W dl pl et b t s rd h n g := QQ_move hQ
        (fun i hi => by rw [s37 37 (by omega) (by omega), a2 i hi, so m (by omega)]) (fun j g1 g2 i hi => by rw [s37 (37 + j) (by omega) (by omega), a3 j g1 g2 i hi, so (m + j) (by omega)]) (fun j g1 g2 i hi => by rw [s37 (37 + j) (by omega) (by omega), a4 j g1 g2 i hi, so (m + j) (by omega)]) (fun j g1 g2 i hi => by rw [s37 (37 + j) (by omega) (by omega), a5 j g1 g2 i hi, so (m + j) (by omega)])
        (fun i hi => by rw [s76 76 (by omega) (by omega), b2 i hi, sr 63 (by omega) (by omega)]) (fun j g1 g2 i hi => by rw [s76 (76 + j) (by omega) (by omega), b3 j g1 g2 i hi, sr (63 + j) (by omega) (by omega)]) (by rw [s76 (76 + 9) (by omega) (by omega), b4, sr (63 + 9) (by omega) (by omega)]) (fun j g1 g2 i hi => by rw [s76 (76 + j) (by omega) (by omega), b5 j g1 g2 i hi, sr (63 + j) (by omega) (by omega)])
        (fun i g1 g2 => by rw [wc_row (by decide)]; exact e2 i (by omega) (by omega)) (by rw [wc_row (by decide)]; exact ek 103 (by decide) (by decide)) (by rw [wc_row (by decide)]; exact ek 104 (by decide) (by decide)) (by rw [wc_row (by decide)]; exact ek 105 (by decide) (by decide)) (fun i hi => by rw [wc_eq]; exact e13 i hi)
      have tB := hG.2.2.1.2
      obtain ⟨g1, g2, -, ⟨g5, g6, g7⟩, ⟨g8, g9, g10⟩, ⟨g11, g12⟩, ⟨tp, p1, p2, p3, p4⟩⟩ := hG
      have h2 : σ'.2 = σ.2 := by rw [hσ', wi_2, b7, a7, wi_2]
      have h12 : σ'.1 0 12 = I 0 := by rw [hσ', wi_ne (by decide), b6 0 (by omega), a6 0 (by omega), wi_eq]
      refine ⟨I 1, σ', τ', ?_, by rw [keep_r1 g6 (by rw [hp]; rfl) c1, hτ'], ⟨m, V, E, pres, true, d, p, L, W, dl, pl, et, b, t, s, rd, h, n, g, ?_⟩, ⟨fun k hk => by rw [fc k (by omega) (by omega) (by omega), wi_row (by omega)], by rw [h2, wi_2]⟩, ⟨fun k hk => ek k (by omega) (by omega), by rw [hτ', wi_2, wi_2, wi_2, c4, wi_2]⟩⟩
      · show gd (bM ((wi σ 0 12 (I 0)).2.2 0 4)) (bd (f_X3_copyFrom 37 ((wi σ 0 12 (I 0)).2.2 0 4) (wi σ 0 12 (I 0))) _) = _
        rw [hm, bm, gd_t, a1, bd_s, b1, bd_s, hσ']
        rfl
      · refine ⟨by rw [h2]; exact g1, by rw [h2]; exact g2, ⟨QA, by omega⟩, ⟨by rw [f0 10 (by decide) (by decide)]; exact g5, by rw [e2 21 (by decide) (by decide)]; exact g6, g7⟩, ⟨by rw [hσ', wi_eq]; rfl, by rw [hτ', wi_ne (by decide), wi_ne (by decide), wi_eq]; rfl, fun _ => ⟨hp, d, W, pl, b, t, s, rd, h, n, g, QK, by omega⟩⟩,
          ⟨⟨by rw [h12, hτ', wi_ne (by decide), wi_eq], fun q => ?_, fun _ => by rw [hτ', wi_eq]⟩, by rw [f0 13 (by decide) (by decide), e2 33 (by decide) (by decide)]; exact g12⟩, ⟨tp, p1, by rw [fc 1 (by decide) (by decide) (by decide)]; exact p2, by rw [e2 27 (by decide) (by decide)]; exact p3, fun i hi => by rw [fc 2 (by decide) (by decide) (by decide), ek 115 (by decide) (by decide)]; exact p4 i hi⟩⟩
        rw [h12, I_eq (by unfold R; omega) (by unfold R; omega)] at q
        omega)
  exact ⟨x, σ', τ', k1, k2, k3⟩
end
section
/-! PURE: back -/
theorem back_r0 {τ : Wd} {x : Int} (h : τ.1 102 25 = I x) (hx : x = 0) : f_X7_back τ = some (I 0, refW τ (I 1)) := by
  unfold f_X7_back refW
  simp (disch := omega) only [↓reduceIte, gd_t, bd_s, nm_W, nm_I, I_add, I_sub, I_mul, I_neg, I_le_t, I_le_f, I_lt_t, I_lt_f, I_eq_t, I_eq_f, I_inb', I_ix', Int.toNat_natCast, decide_true, decide_false, Bool.not_false, Bool.not_true, if_true, if_false, wi_eq, wi_eq', wi_ne, wi_row, wi_2, N0, N1, N2, N3, N4, N5, N6, N7, N8, N9, N10, N11, N12, N13, N14, N15, N16, N17, N18, N19, N20, N21, N22, N23, N24, N25, N26, N27, N28, N29, N30, N31, N32, N33, N34, N35, N36, N37, N38, N39, N40, N41, N42, N43, N45, N48, N57, N59, N88, N89, N97, N99, N120, N121, N122, N179, N200, N255, N300, N400, N880, N900, N999, N1019, N50000000, N100000000, N1000000000, N2147483647, N2147483648, h, refR, isb_0]
theorem back_r1 {τ τ1 : Wd} {x : Int} (h : τ.1 102 25 = I x) (hx : x = 1) (e : f_X7_copies 113 179 112 179 (wi τ 102 0 (I 0)) = some (0, τ1)) : f_X7_back τ = some (I 1, wi (wi τ1 102 1 (I 0)) 102 2 (I (-1))) := by
  unfold f_X7_back
  simp (disch := omega) only [↓reduceIte, gd_t, bd_s, nm_W, nm_I, I_add, I_sub, I_mul, I_neg, I_le_t, I_le_f, I_lt_t, I_lt_f, I_eq_t, I_eq_f, I_inb', I_ix', Int.toNat_natCast, decide_true, decide_false, Bool.not_false, Bool.not_true, if_true, if_false, wi_eq, wi_eq', wi_ne, wi_row, wi_2, N0, N1, N2, N3, N4, N5, N6, N7, N8, N9, N10, N11, N12, N13, N14, N15, N16, N17, N18, N19, N20, N21, N22, N23, N24, N25, N26, N27, N28, N29, N30, N31, N32, N33, N34, N35, N36, N37, N38, N39, N40, N41, N42, N43, N45, N48, N57, N59, N88, N89, N97, N99, N120, N121, N122, N179, N200, N255, N300, N400, N880, N900, N999, N1019, N50000000, N100000000, N1000000000, N2147483647, N2147483648, h, e, isb_1, goodR]
theorem m_back : MT f_X6_back f_X7_back := by
  intro σ τ B ⟨m, V, E, pres, kp, d, p, L, W, dl, pl, et, b, t, s, rd, h, n, g, hG⟩ hB
  obtain ⟨bm, m10, m63⟩ := bMm hG.1
  have m24 : m = 11 ∨ m = 24 := by have := hG.1; omega
  have g9 := hG.2.2.2.2.1.2.1
  have hK := hG.2.2.2.2.1.2.2
  obtain ⟨x, σ', τ', k1, k2, k3⟩ := act_ok (B' := B + 200) (a := bn kp) (nn := 1) (ss := 1) (low := I 0) (K := fun σ2 => gd (bM (σ2.2.2 0 4)) (bd (f_X3_copyFrom (σ2.2.2 0 4) 37 σ2) fun _ σ4 => bd (f_X4_copyFrom 63 76 σ4) fun _ σ5 => gd (isb (1 : Int32)) (some ((1 : Int32), σ5)))) (fr := f_X7_back)
    hG (by omega) (bn_bnd _) (by omega) (by omega)
    (fun hc => by
      rcases tc_cases (pres := pres) (a := bn kp) (n := 1) (s := 1) with ⟨q1, q2⟩ | ⟨-, q2, q3⟩ | ⟨-, -, q2, -⟩ | ⟨-, -, -, q2, -⟩ | ⟨-, -, -, -, q2⟩
      · rw [q2]
        refine back_r0 g9 ?_
        cases e : kp with
        | false => rfl
        | true => have := (hK e).1; rw [q1] at this; cases this
      · rw [q3]; exact back_r0 g9 q2
      · omega
      · omega
      · exact absurd q2 hc)
    (fun hp ha _ _ => by
      have kt : kp = true := by
        cases e : kp with
        | true => rfl
        | false => rw [e] at ha; cases ha
      obtain ⟨-, d', W', pl', b', t', s', rd', h', n', g', hQ, tB'⟩ := hK kt
      have hm : (wi σ 0 12 (I 0)).2.2 0 4 = m := hG.2.1
      obtain ⟨σ1, a1, a2, a3, a4, a5, a6, a7⟩ := cCopyM (b := m) (m := 37) (σ := wi σ 0 12 (I 0)) (by omega)
      obtain ⟨σ', b1, b2, b3, b4, b5, b6, b7⟩ := cCopyR (b := 63) (r := 76) (σ := σ1) (x := b') (by omega) (by rw [a6 76 (by omega), wi_row (by decide)]; exact hQ.2.2.1.1.1)
      obtain ⟨τ1, c1, c2, c3, c4⟩ := rCopy (a := 113) (b := 112) (τ := wi τ 102 0 (I 0)) (by decide)
      obtain ⟨τ', hτ'⟩ : ∃ x, x = wi (wi τ1 102 1 (I 0)) 102 2 (I (-1)) := ⟨_, rfl⟩
      have fc : ∀ k, k ≠ 0 → k < m ∨ m + 12 < k → k < 63 ∨ 75 < k → σ'.1 k = σ.1 k := fun k g1 g2 g3 => by rw [b6 k (by omega), a6 k (by omega), wi_row g1]
      have f0 : ∀ i, i ≠ 12 → σ'.1 0 i = σ.1 0 i := fun i g2 => by rw [b6 0 (by omega), a6 0 (by omega), wi_ne g2]
      have ek : ∀ k, k ≠ 102 → k ≠ 112 → τ'.1 k = τ.1 k := fun k g1 g2 => by rw [hτ', wi_row g1, wi_row g1, c3 k g2, wi_row g1]
      have e2 : ∀ i, 3 ≤ i → τ'.1 102 i = τ.1 102 i := fun i g1 => by rw [hτ', wi_ne (by omega), wi_ne (by omega), c3 102 (by decide), wi_ne (by omega)]
      have e12 : ∀ i, i < 179 → τ'.1 112 i = τ.1 113 i := fun i hi => by rw [hτ', wi_row (by decide), wi_row (by decide), c2 i hi, wi_row (by decide)]
      have sm : ∀ k, m ≤ k → k ≤ m + 12 → σ'.1 k = σ1.1 k := fun k g1 g2 => b6 k (by omega)
      have so : ∀ k, k ≠ 0 → (wi σ 0 12 (I 0)).1 k = σ.1 k := fun k hk => wi_row hk
      have sr : ∀ k, 76 ≤ k → k ≤ 88 → σ1.1 k = σ.1 k := fun k g1 g2 => by rw [a6 k (by omega), so k (by omega)]
      have QA : QQ m 63 σ' τ' V E d' p L W' dl pl' et b' t' s' rd' h' n' g' := QQ_move hQ
        (fun i hi => by rw [sm m (by omega) (by omega), a2 i hi, so 37 (by omega)]) (fun j g1 g2 i hi => by rw [sm (m + j) (by omega) (by omega), a3 j g1 g2 i hi, so (37 + j) (by omega)]) (fun j g1 g2 i hi => by rw [sm (m + j) (by omega) (by omega), a4 j g1 g2 i hi, so (37 + j) (by omega)]) (fun j g1 g2 i hi => by rw [sm (m + j) (by omega) (by omega), a5 j g1 g2 i hi, so (37 + j) (by omega)])
        (fun i hi => by rw [b2 i hi, sr 76 (by omega) (by omega)]) (fun j g1 g2 i hi => by rw [b3 j g1 g2 i hi, sr (76 + j) (by omega) (by omega)]) (by rw [b4, sr (76 + 9) (by omega) (by omega)]) (fun j g1 g2 i hi => by rw [b5 j g1 g2 i hi, sr (76 + j) (by omega) (by omega)])
        (fun i g1 g2 => by rw [wc_row (by decide)]; exact e2 i (by omega)) (by rw [wc_row (by decide)]; exact ek 103 (by decide) (by decide)) (by rw [wc_row (by decide)]; exact ek 104 (by decide) (by decide)) (by rw [wc_row (by decide)]; exact ek 105 (by decide) (by decide)) (fun i hi => by rw [wc_eq]; exact e12 i hi)
      have h2 : σ'.2 = σ.2 := by rw [b7, a7, wi_2]
      refine ⟨I 1, σ', τ', ?_, by rw [back_r1 g9 (by rw [kt]; rfl) c1, hτ'], ⟨m, V, E, pres, kp, d', p, L, W', dl, pl', et, b', t', s', rd', h', n', g', GA_act hG hp (by omega) QA (by omega) (fun k hk => fc k (by omega) (by omega) (by omega)) f0 h2 (fun k g1 g2 g3 => ek k (by omega) g3) (fun i g1 _ => e2 i g1) (by rw [b6 0 (by omega), a6 0 (by omega), wi_eq]) (by rw [hτ', wi_ne (by decide), wi_eq]) (by rw [hτ', wi_eq])⟩, ⟨fun k hk => by rw [fc k (by omega) (by omega) (by omega), wi_row (by omega)], by rw [h2, wi_2]⟩, ⟨fun k hk => ek k (by omega) (by omega), by rw [hτ', wi_2, wi_2, c4, wi_2]⟩⟩
      show gd (bM ((wi σ 0 12 (I 0)).2.2 0 4)) (bd (f_X3_copyFrom ((wi σ 0 12 (I 0)).2.2 0 4) 37 (wi σ 0 12 (I 0))) _) = _
      rw [hm, bm, gd_t, a1, bd_s, b1, bd_s]
      rfl)
  refine ⟨x, σ', τ', ?_, k2, k3⟩
  unfold f_X6_back
  rw [hG.2.2.2.2.1.1]
  exact k1
end
section
/-! PURE: begin -/
theorem begin_1 {τ : Wd} {x : Int} (h : τ.1 102 21 = I x) (hx : x = 0) : f_X7_begin τ = some (I (-1), refW τ (I 1)) := by
  unfold f_X7_begin refW
  simp (disch := omega) only [↓reduceIte, gd_t, bd_s, nm_W, nm_I, I_add, I_sub, I_mul, I_neg, I_le_t, I_le_f, I_lt_t, I_lt_f, I_eq_t, I_eq_f, I_inb', I_ix', Int.toNat_natCast, decide_true, decide_false, Bool.not_false, Bool.not_true, if_true, if_false, wi_eq, wi_eq', wi_ne, wi_row, wi_2, N0, N1, N2, N3, N4, N5, N6, N7, N8, N9, N10, N11, N12, N13, N14, N15, N16, N17, N18, N19, N20, N21, N22, N23, N24, N25, N26, N27, N28, N29, N30, N31, N32, N33, N34, N35, N36, N37, N38, N39, N40, N41, N42, N43, N45, N48, N57, N59, N88, N89, N97, N99, N120, N121, N122, N179, N200, N255, N300, N400, N880, N900, N999, N1019, N50000000, N100000000, N1000000000, N2147483647, N2147483648, h, refR]
theorem begin_5 {τ : Wd} {x y : Int} (h : τ.1 102 21 = I x) (hx : x = 1) (h36 : τ.1 112 36 = I y) (hy : y = 1) : f_X7_begin τ = some (I (-1), refW τ (I 5)) := by
  have w36 : Int.toNat 36 = 36 := rfl
  unfold f_X7_begin refW
  simp (disch := omega) only [↓reduceIte, gd_t, bd_s, nm_W, nm_I, I_add, I_sub, I_mul, I_neg, I_le_t, I_le_f, I_lt_t, I_lt_f, I_eq_t, I_eq_f, I_inb', I_ix', Int.toNat_natCast, decide_true, decide_false, Bool.not_false, Bool.not_true, if_true, if_false, wi_eq, wi_eq', wi_ne, wi_row, wi_2, N0, N1, N2, N3, N4, N5, N6, N7, N8, N9, N10, N11, N12, N13, N14, N15, N16, N17, N18, N19, N20, N21, N22, N23, N24, N25, N26, N27, N28, N29, N30, N31, N32, N33, N34, N35, N36, N37, N38, N39, N40, N41, N42, N43, N45, N48, N57, N59, N88, N89, N97, N99, N120, N121, N122, N179, N200, N255, N300, N400, N880, N900, N999, N1019, N50000000, N100000000, N1000000000, N2147483647, N2147483648, h, w36, h36, refR]
theorem begin_0 {τ τ2 : Wd} {x y W : Int} {c : Int32} (h : τ.1 102 21 = I x) (hx : x = 1) (h36 : τ.1 112 36 = I y) (hy : y = 0) (h35 : τ.1 112 35 = I W) (e : f_X7_beginsRound (wi (wi (wi τ 102 0 (I 0)) 112 36 (I 1)) 112 38 (I W)) = some (c, τ2)) : f_X7_begin τ = some (c, wi (wi τ2 102 1 (I 0)) 102 2 (I (-1))) := by
  have w35 : Int.toNat 35 = 35 := rfl
  have w36 : Int.toNat 36 = 36 := rfl
  have w38 : Int.toNat 38 = 38 := rfl
  unfold f_X7_begin
  simp (disch := omega) only [↓reduceIte, gd_t, bd_s, nm_W, nm_I, I_add, I_sub, I_mul, I_neg, I_le_t, I_le_f, I_lt_t, I_lt_f, I_eq_t, I_eq_f, I_inb', I_ix', Int.toNat_natCast, decide_true, decide_false, Bool.not_false, Bool.not_true, if_true, if_false, wi_eq, wi_eq', wi_ne, wi_row, wi_2, N0, N1, N2, N3, N4, N5, N6, N7, N8, N9, N10, N11, N12, N13, N14, N15, N16, N17, N18, N19, N20, N21, N22, N23, N24, N25, N26, N27, N28, N29, N30, N31, N32, N33, N34, N35, N36, N37, N38, N39, N40, N41, N42, N43, N45, N48, N57, N59, N88, N89, N97, N99, N120, N121, N122, N179, N200, N255, N300, N400, N880, N900, N999, N1019, N50000000, N100000000, N1000000000, N2147483647, N2147483648, h, w36, h36, w35, h35, w38, e, goodR]
theorem c_begin {σ : Wd} {b : Bool} (h : σ.1 63 0 = I (bn b)) : f_X6_begin σ = f_X6_begin_18 (I 1) (I 1) (I (bn (!b))) σ := by
  cases b with
  | false =>
    have h : σ.1 63 0 = (0 : Int32) := h
    unfold f_X6_begin
    rw [if_pos h]
    rfl
  | true =>
    have h : ¬ σ.1 63 0 = (0 : Int32) := by rw [h]; decide
    unfold f_X6_begin
    rw [if_neg h]
    rfl
set_option maxHeartbeats 1000000 in
theorem m_begin : MT f_X6_begin f_X7_begin := by
  intro σ τ B ⟨m, V, E, pres, kp, d, p, L, W, dl, pl, et, b, t, s, rd, h, n, g, hG⟩ hB
  obtain ⟨bm, m10, m63⟩ := bMm hG.1
  have m24 : m = 11 ∨ m = 24 := by have := hG.1; omega
  have hQ := hG.2.2.1.1
  have g21 := hG.2.2.2.1.2.1
  obtain ⟨x, σ', τ', k1, k2, k3⟩ := act_ok (B' := B + 200) (a := 1) (nn := 1) (ss := bn (!b)) (low := I (-1)) (K := fun σ2 => gd (isb (1 : Int32)) (nmW (wi σ2 63 0 (1 : Int32)) fun σ3 => gd (bM (σ3.2.2 0 4)) (nmW (wi σ3 63 2 (σ3.1 (σ3.2.2 0 4) 0)) fun σ5 => gd (bM (σ5.2.2 0 4)) (bd (f_X4_startRound 63 (σ5.2.2 0 4) σ5) fun r7 σ8 => some (r7, σ8))))) (fr := f_X7_begin)
    hG (by omega) (by omega) (by omega) (bn_bnd _)
    (fun hc => by
      rcases tc_cases (pres := pres) (a := 1) (n := 1) (s := bn (!b)) with ⟨q1, q2⟩ | ⟨-, q2, -⟩ | ⟨-, -, q2, -⟩ | ⟨q1, -, -, q2, q3⟩ | ⟨-, -, -, -, q2⟩
      · rw [q2]; exact begin_1 g21 (by rw [q1]; rfl)
      · omega
      · omega
      · rw [q3]; exact begin_5 g21 (by rw [q1]; rfl) hQ.2.2.1.1.2 (by cases b with
          | true => rfl
          | false => cases q2)
      · exact absurd q2 hc)
    (fun hp _ _ hs => by
      have bf : b = false := by
        cases e : b with
        | true => rw [e] at hs; cases hs
        | false => rfl
      subst bf
      obtain ⟨hM, hE, hR, ⟨np, n1, n2, n3, n4⟩, hP, hL, hn, ⟨r6, rd0, rd1⟩, hb, hz⟩ := hQ
      have rdz := hb rfl
      have h0 := (hz rdz).1
      have h36 := hR.1.2
      obtain ⟨W1, W2, W3, W4⟩ := hM.2.2.2.2.2.1
      obtain ⟨y1, y1', t0, t1⟩ := hR.2.1
      obtain ⟨σ2, hσ2⟩ : ∃ x, x = wi (wi (wi σ 0 12 (I 0)) 63 0 (I 1)) 63 2 (I W) := ⟨_, rfl⟩
      obtain ⟨τ2, hτ2⟩ : ∃ x, x = wi (wi (wi τ 102 0 (I 0)) 112 36 (I 1)) 112 38 (I W) := ⟨_, rfl⟩
      have fc : ∀ k, k ≠ 0 → k ≠ 63 → σ2.1 k = σ.1 k := fun k g1 g2 => by rw [hσ2, wi_row g2, wi_row g2, wi_row g1]
      have f63 : ∀ i, i ≠ 0 → i ≠ 2 → σ2.1 63 i = σ.1 63 i := fun i g1 g2 => by rw [hσ2, wi_ne g2, wi_ne g1, wi_row (by decide)]
      have fk : ∀ k, k ≠ 102 → k ≠ 112 → τ2.1 k = τ.1 k := fun k g1 g2 => by rw [hτ2, wi_row g2, wi_row g2, wi_row g1]
      have f2 : ∀ i, i ≠ 0 → τ2.1 102 i = τ.1 102 i := fun i g1 => by rw [hτ2, wi_row (by decide), wi_row (by decide), wi_ne g1]
      have fx : ∀ i, i ≠ 36 → i ≠ 38 → τ2.1 112 i = τ.1 112 i := fun i g1 g2 => by rw [hτ2, wi_ne g2, wi_ne g1, wi_row (by decide)]
      have M2 : QM m σ2 τ2 V d p L W dl pl := QM_rows hM (fun k g1 g2 => fc k (by omega) (by omega)) (fun i g1 g2 => f2 i (by omega)) (fk 103 (by decide) (by decide)) (fk 104 (by decide) (by decide)) (fun i hi => fx i (by omega) (by omega))
      have R2 : QR 63 σ2 τ2 true t W := by
        obtain ⟨-, -, -, z3, z4, z5, z6⟩ := hR
        refine ⟨⟨by rw [hσ2, wi_ne (by decide), wi_eq]; rfl, by rw [hτ2, wi_ne (by decide), wi_eq]; rfl⟩, ⟨by rw [f63 1 (by decide) (by decide)]; exact y1, by rw [fx 37 (by decide) (by decide)]; exact y1', t0, t1⟩, ⟨by rw [hσ2, wi_eq], by rw [hτ2, wi_eq], W3, W4⟩, ?_, ?_, ?_, ?_⟩
        · rw [f63 3 (by decide) (by decide), fx 39 (by decide) (by decide)]; exact z3
        · rw [f63 4 (by decide) (by decide), fx 40 (by decide) (by decide)]; exact z4
        · rw [f63 5 (by decide) (by decide), fx 41 (by decide) (by decide)]; exact z5
        · rw [f63 6 (by decide) (by decide), fx 42 (by decide) (by decide)]; exact z6
      have P2 : QPs 63 σ2 τ2 V t h n g := fun w hw => QP_congr (hP w hw) (fun k g1 g2 => by rw [fc k (by omega) (by omega)]) (fun i g1 g2 => fx i (by omega) (by omega)) (fk 103 (by decide) (by decide))
      have L2 : LR (63 + 9) σ2 τ2 V d := LR_congr hL rfl rfl (fun k g1 g2 => fc k (by omega) (by omega)) (fun i hi => fx i (by omega) (by omega))
      have z0 : pu n V 0 = 0 := by
        have e : ∀ (r v : Nat), v + r ≤ V → pu n r v = 0 := by
          intro r
          induction r with
          | zero => intro v _; rfl
          | succ r ih =>
            intro v hv
            have q := (hP v (by omega)).2.2.2.2.2.2.2.2
            have := h0 v (by omega)
            unfold pu
            rw [ih (v + 1) (by omega)]
            omega
        exact e V 0 (by omega)
      obtain ⟨σ3, τ3, h3, n3', g3, c, rd', q1, q2, q3, q4, q5, q6, q7, q8, q9, ⟨⟨v1, v2, v3⟩, ⟨v4, v5, v6⟩⟩⟩ := round_ok (rd := rd) m10 (by omega) M2 R2 L2 P2 (by omega) (by rw [f63 6 (by decide) (by decide)]; exact r6) rd0 (by omega) (fun _ => rfl)
      obtain ⟨τ', hτ'⟩ : ∃ x, x = wi (wi τ3 102 1 (I 0)) 102 2 (I (-1)) := ⟨_, rfl⟩
      have ec : ∀ k, k ≠ 0 → k < 4 ∨ 9 < k → k < 63 ∨ 71 < k → σ3.1 k = σ.1 k := fun k g1 g2 g3 => by rw [v1 k g2 (by omega), fc k g1 (by omega)]
      have ek : ∀ k, k ≠ 102 → k ≠ 112 → k ≠ 116 → k ≠ 117 → τ'.1 k = τ.1 k := fun k g1 g2 g3 g4 => by rw [hτ', wi_row g1, wi_row g1, v4 k g1 g2 g3 g4, fk k g1 g2]
      have e2 : ∀ i, 3 ≤ i → i ≠ 37 → i ≠ 38 → τ'.1 102 i = τ.1 102 i := fun i g1 g2 g3 => by rw [hτ', wi_ne (by omega), wi_ne (by omega), v5 i g2 g3, f2 i (by omega)]
      have QA0 : QQ m 63 σ3 τ3 V E d p L W dl pl et true t W rd' h3 n3' g3 := by
        refine ⟨q3, QE_congr hE (by rw [ec m (by omega) (by omega) (by omega)]) (ec _ (by omega) (by omega) (by omega)) (ec _ (by omega) (by omega) (by omega)) (ec _ (by omega) (by omega) (by omega)) (by rw [v5 15 (by decide) (by decide), f2 15 (by decide)]) (by rw [v4 105 (by decide) (by decide) (by decide) (by decide), fk 105 (by decide) (by decide)]), q4, ⟨np, by rw [v2 7 (by decide), f63 7 (by decide) (by decide)]; exact n1, n2, n3, n4⟩, q6, q5, ⟨fun w hw => ?_, q7⟩, ⟨q8, by omega, by omega⟩, fun q => (by cases q), fun q => ?_⟩
        · have := (q6 w hw).2.2.2.2.2.2.2.2
          omega
        · rcases q9 with ⟨x1, x2⟩ | x1
          · exact ⟨by rw [x2]; exact h0, fun _ => rfl⟩
          · omega
      have QA : QQ m 63 σ3 τ' V E d p L W dl pl et true t W rd' h3 n3' g3 := QQ_congr QA0 (by omega) (fun _ _ _ => rfl) (fun _ _ _ => rfl) (fun i g1 g2 => by rw [hτ', wi_ne (by omega), wi_ne (by omega)]) (by rw [hτ', wi_row (by decide), wi_row (by decide)]) (by rw [hτ', wi_row (by decide), wi_row (by decide)]) (by rw [hτ', wi_row (by decide), wi_row (by decide)]) (by rw [hτ', wi_row (by decide), wi_row (by decide)])
      have h2 : σ3.2 = σ.2 := by rw [v3, hσ2, wi_2, wi_2, wi_2]
      have tB := hG.2.2.1.2
      refine ⟨I c, σ3, τ', ?_, ?_, ⟨m, V, E, pres, kp, d, p, L, W, dl, pl, et, true, t, W, rd', h3, n3', g3, GA_act hG hp (by omega) QA (by omega) (fun k hk => ec k (by omega) (by omega) (by omega)) (fun i hi => by rw [v1 0 (by omega) (by omega), hσ2, wi_row (by decide), wi_row (by decide), wi_ne hi]) h2 (fun k g1 g2 g3 => ek k (by omega) g3 (by omega) (by omega)) (fun i g1 g2 => e2 i g1 (by omega) (by omega)) (by rw [v1 0 (by omega) (by omega), hσ2, wi_row (by decide), wi_row (by decide), wi_eq]) (by rw [hτ', wi_ne (by decide), wi_eq]) (by rw [hτ', wi_eq])⟩, ⟨fun k hk => by rw [ec k (by omega) (by omega) (by omega), wi_row (by omega)], by rw [h2, wi_2]⟩, ⟨fun k hk => ek k (by omega) (by omega) (by omega) (by omega), by rw [hτ', wi_2, wi_2, v6, hτ2, wi_2, wi_2, wi_2]⟩⟩
      · have hm : σ2.2.2 0 4 = m := by rw [hσ2]; exact hG.2.1
        have hm1 : (wi (wi σ 0 12 (I 0)) 63 0 (I 1)).2.2 0 4 = m := hG.2.1
        have w0 : (wi (wi σ 0 12 (I 0)) 63 0 (I 1)).1 m 0 = I W := by rw [wi_row (by omega), wi_row (by omega)]; exact W1
        show gd (isb (I 1)) (nmW (wi (wi σ 0 12 (I 0)) 63 0 (I 1)) fun σ3 => gd (bM (σ3.2.2 0 4)) (nmW (wi σ3 63 2 (σ3.1 (σ3.2.2 0 4) 0)) fun σ5 => gd (bM (σ5.2.2 0 4)) (bd (f_X4_startRound 63 (σ5.2.2 0 4) σ5) fun r7 σ8 => some (r7, σ8)))) = _
        rw [isb_1, gd_t, nm_W, hm1, bm, gd_t, w0, nm_W, ← hσ2, hm, bm, gd_t, q1, bd_s]
      · rw [hτ']
        exact begin_0 g21 (by rw [hp]; rfl) h36 rfl W2 (by rw [← hτ2]; exact q2))
  refine ⟨x, σ', τ', ?_, k2, k3⟩
  rw [c_begin hQ.2.2.1.1.1]
  exact k1
end
section
/-! PURE: ticks -/
theorem TF_trans {m r : Nat} {σ τ σ1 τ1 σ2 τ2 : Wd} (h : TF m r σ τ σ1 τ1) (g : TF m r σ1 τ1 σ2 τ2) : TF m r σ τ σ2 τ2 :=
  ⟨⟨fun k a1 a2 a3 => by rw [g.1.1 k a1 a2 a3, h.1.1 k a1 a2 a3], by rw [g.1.2, h.1.2]⟩, ⟨fun k a1 a2 a3 a4 => by rw [g.2.1 k a1 a2 a3 a4, h.2.1 k a1 a2 a3 a4], fun i a1 a2 => by rw [g.2.2.1 i a1 a2, h.2.2.1 i a1 a2], by rw [g.2.2.2, h.2.2.2]⟩⟩
theorem TF_refl {m r : Nat} {σ τ : Wd} : TF m r σ τ σ τ := ⟨⟨fun _ _ _ _ => rfl, rfl⟩, ⟨fun _ _ _ _ _ => rfl, fun _ _ _ => rfl, rfl⟩⟩
theorem t35_step {m k : Nat} {N z : Int} {x2 : Int32} {σ σ' : Wd} (hm : σ.2.2 0 4 = m) (bm : bM m = true) (h0 : 0 ≤ z) (hz : z < N) (hN : N ≤ 200) (e : f_X4_tick 63 m σ = some (0, σ')) : f_X6_ticks_35 (k + 1) (I N) x2 (I z) σ = f_X6_ticks_35 k (I N) x2 (I (z + 1)) σ' := by
  rw [f_X6_ticks_35]
  simp (disch := omega) only [↓reduceIte, gd_t, bd_s, nm_W, nm_I, I_add, I_sub, I_mul, I_neg, I_le_t, I_le_f, I_lt_t, I_lt_f, I_eq_t, I_eq_f, I_inb', I_ix', Int.toNat_natCast, decide_true, decide_false, Bool.not_false, Bool.not_true, if_true, if_false, wi_eq, wi_eq', wi_ne, wi_row, wi_2, N0, N1, N2, N3, N4, N5, N6, N7, N8, N9, N10, N11, N12, N13, N14, N15, N16, N17, N18, N19, N20, N21, N22, N23, N24, N25, N26, N27, N28, N29, N30, N31, N32, N33, N34, N35, N36, N37, N38, N39, N40, N41, N42, N43, N45, N48, N57, N59, N88, N89, N97, N99, N120, N121, N122, N179, N200, N255, N300, N400, N880, N900, N999, N1019, N50000000, N100000000, N1000000000, N2147483647, N2147483648, hm, bm, e]
theorem t35_end {k : Nat} {N z : Int} {x2 : Int32} {σ : Wd} (h0 : 0 ≤ N) (hz : z = N) (hN : N ≤ 200) : f_X6_ticks_35 (k + 1) (I N) x2 (I z) σ = some (σ.1 63 3 - x2, σ) := by
  rw [f_X6_ticks_35]
  simp (disch := omega) only [↓reduceIte, gd_t, bd_s, nm_W, nm_I, I_add, I_sub, I_mul, I_neg, I_le_t, I_le_f, I_lt_t, I_lt_f, I_eq_t, I_eq_f, I_inb', I_ix', Int.toNat_natCast, decide_true, decide_false, Bool.not_false, Bool.not_true, if_true, if_false, wi_eq, wi_eq', wi_ne, wi_row, wi_2, N0, N1, N2, N3, N4, N5, N6, N7, N8, N9, N10, N11, N12, N13, N14, N15, N16, N17, N18, N19, N20, N21, N22, N23, N24, N25, N26, N27, N28, N29, N30, N31, N32, N33, N34, N35, N36, N37, N38, N39, N40, N41, N42, N43, N45, N48, N57, N59, N88, N89, N97, N99, N120, N121, N122, N179, N200, N255, N300, N400, N880, N900, N999, N1019, N50000000, N100000000, N1000000000, N2147483647, N2147483648]
theorem t55_step {k : Nat} {N z : Int} {acc nb : Int32} {τ τ' : Wd} (h0 : 0 ≤ z) (hz : z < N) (hN : N ≤ 200) (e : f_X7_tick τ = some (nb, τ')) : f_X7_ticks_55 (k + 1) (I N) acc (I z) τ = f_X7_ticks_55 k (I N) (acc + nb) (I (z + 1)) τ' := by
  rw [f_X7_ticks_55]
  simp (disch := omega) only [↓reduceIte, gd_t, bd_s, nm_W, nm_I, I_add, I_sub, I_mul, I_neg, I_le_t, I_le_f, I_lt_t, I_lt_f, I_eq_t, I_eq_f, I_inb', I_ix', Int.toNat_natCast, decide_true, decide_false, Bool.not_false, Bool.not_true, if_true, if_false, wi_eq, wi_eq', wi_ne, wi_row, wi_2, N0, N1, N2, N3, N4, N5, N6, N7, N8, N9, N10, N11, N12, N13, N14, N15, N16, N17, N18, N19, N20, N21, N22, N23, N24, N25, N26, N27, N28, N29, N30, N31, N32, N33, N34, N35, N36, N37, N38, N39, N40, N41, N42, N43, N45, N48, N57, N59, N88, N89, N97, N99, N120, N121, N122, N179, N200, N255, N300, N400, N880, N900, N999, N1019, N50000000, N100000000, N1000000000, N2147483647, N2147483648, e]
theorem t55_end {k : Nat} {N z : Int} {acc : Int32} {τ : Wd} (h0 : 0 ≤ N) (hz : z = N) (hN : N ≤ 200) : f_X7_ticks_55 (k + 1) (I N) acc (I z) τ = bd (f_X7_good acc τ) (fun r s => some (r, s)) := by
  rw [f_X7_ticks_55]
  simp (disch := omega) only [↓reduceIte, gd_t, bd_s, nm_W, nm_I, I_add, I_sub, I_mul, I_neg, I_le_t, I_le_f, I_lt_t, I_lt_f, I_eq_t, I_eq_f, I_inb', I_ix', Int.toNat_natCast, decide_true, decide_false, Bool.not_false, Bool.not_true, if_true, if_false, wi_eq, wi_eq', wi_ne, wi_row, wi_2, N0, N1, N2, N3, N4, N5, N6, N7, N8, N9, N10, N11, N12, N13, N14, N15, N16, N17, N18, N19, N20, N21, N22, N23, N24, N25, N26, N27, N28, N29, N30, N31, N32, N33, N34, N35, N36, N37, N38, N39, N40, N41, N42, N43, N45, N48, N57, N59, N88, N89, N97, N99, N120, N121, N122, N179, N200, N255, N300, N400, N880, N900, N999, N1019, N50000000, N100000000, N1000000000, N2147483647, N2147483648]
theorem add_sub32 (x y : Int32) : x + y - x = y := by
  rw [Int32.add_comm, Int32.add_sub_cancel]
theorem ticks_ok {m V E : Nat} {p L W N : Int} {dl pl et : Nat → Int} {x2 : Int32} (m10 : 10 < m) (m63 : m + 12 < 63) (bm : bM m = true) (hN0 : 0 ≤ N) (hN : N ≤ 200) :
    ∀ (rr n1 n2 : Nat) (z t s rd : Int) (acc : Int32) (d : MD) (h n g : Nat → Int) (σ τ : Wd), z + (rr : Int) = N → 0 ≤ z → rr < n1 → rr < n2 → QQ m 63 σ τ V E d p L W dl pl et true t s rd h n g → t + (rr : Int) ≤ 900000 → σ.2.2 0 4 = m → σ.1 63 3 = x2 + acc →
      ∃ (σ' τ' : Wd) (y : Int32) (d' : MD) (s' rd' : Int) (h' n' g' : Nat → Int), f_X6_ticks_35 n1 (I N) x2 (I z) σ = some (y, σ') ∧ f_X7_ticks_55 n2 (I N) acc (I z) τ = bd (f_X7_good y τ') (fun r s => some (r, s)) ∧ QQ m 63 σ' τ' V E d' p L W dl pl et true (t + (rr : Int)) s' rd' h' n' g' ∧ TF m 63 σ τ σ' τ'
  | 0, n1 + 1, n2 + 1, z, t, s, rd, acc, d, h, n, g, σ, τ, hz, hz0, _, _, hQ, _, hm, h3 => by
    refine ⟨σ, τ, acc, d, s, rd, h, n, g, ?_, t55_end hN0 (by omega) hN, ?_, TF_refl⟩
    · rw [t35_end hN0 (by omega) hN, h3, add_sub32]
    · rw [show t + ((0 : Nat) : Int) = t from by omega]
      exact hQ
  | rr + 1, n1 + 1, n2 + 1, z, t, s, rd, acc, d, h, n, g, σ, τ, hz, hz0, hn1, hn2, hQ, ht, hm, h3 => by
    obtain ⟨σ1, τ1, d1, s1, rd1, h1, n1', g1, nb, a1, a2, a3, a4, a5, a6⟩ := tick_ok m10 m63 hQ (by omega)
    obtain ⟨σ', τ', y, d', s', rd', h', n', g', b1, b2, b3, b4⟩ := ticks_ok m10 m63 bm hN0 hN rr n1 n2 (z + 1) (t + 1) s1 rd1 (acc + nb) d1 h1 n1' g1 σ1 τ1 (by omega) (by omega) (by omega) (by omega) a3 (by omega) (by rw [a6.1.2]; exact hm) (by rw [a5, h3, Int32.add_assoc])
    refine ⟨σ', τ', y, d', s', rd', h', n', g', ?_, ?_, ?_, TF_trans a6 b4⟩
    · rw [t35_step hm bm hz0 (by omega) hN a1]; exact b1
    · rw [t55_step hz0 (by omega) hN a2]; exact b2
    · rw [show t + ((rr + 1 : Nat) : Int) = t + 1 + (rr : Int) from by omega]
      exact b3
end
section
/-! PURE: ticks, whole -/
theorem ticks_r {τ : Wd} {x q a y : Int} (h : τ.1 102 21 = I x) (hx : 0 ≤ x ∧ x ≤ 1) (e : f_X7_in (I q) (I 1) (I 200) (wi τ 102 0 (I 0)) = some (I a, wi τ 102 0 (I 0))) (ha : 0 ≤ a ∧ a ≤ 1) (h36 : τ.1 112 36 = I y) (hy : 0 ≤ y ∧ y ≤ 1) :
    f_X7_ticks (I q) τ = if x = 0 then some (I (-1), refW τ (I 1)) else if a = 0 then some (I (-1), refW τ (I 2)) else if y = 0 then some (I (-1), refW τ (I 5)) else f_X7_ticks_55 FU (I q) (I 0) (I 0) (wi τ 102 0 (I 0)) := by
  have w36 : Int.toNat 36 = 36 := rfl
  by_cases c1 : x = 0
  · rw [if_pos c1]
    unfold f_X7_ticks refW
    simp (disch := omega) only [↓reduceIte, gd_t, bd_s, nm_W, nm_I, I_add, I_sub, I_mul, I_neg, I_le_t, I_le_f, I_lt_t, I_lt_f, I_eq_t, I_eq_f, I_inb', I_ix', Int.toNat_natCast, decide_true, decide_false, Bool.not_false, Bool.not_true, if_true, if_false, wi_eq, wi_eq', wi_ne, wi_row, wi_2, N0, N1, N2, N3, N4, N5, N6, N7, N8, N9, N10, N11, N12, N13, N14, N15, N16, N17, N18, N19, N20, N21, N22, N23, N24, N25, N26, N27, N28, N29, N30, N31, N32, N33, N34, N35, N36, N37, N38, N39, N40, N41, N42, N43, N45, N48, N57, N59, N88, N89, N97, N99, N120, N121, N122, N179, N200, N255, N300, N400, N880, N900, N999, N1019, N50000000, N100000000, N1000000000, N2147483647, N2147483648, h, refR]
  · rw [if_neg c1]
    by_cases c2 : a = 0
    · rw [if_pos c2]
      unfold f_X7_ticks refW
      simp (disch := omega) only [↓reduceIte, gd_t, bd_s, nm_W, nm_I, I_add, I_sub, I_mul, I_neg, I_le_t, I_le_f, I_lt_t, I_lt_f, I_eq_t, I_eq_f, I_inb', I_ix', Int.toNat_natCast, decide_true, decide_false, Bool.not_false, Bool.not_true, if_true, if_false, wi_eq, wi_eq', wi_ne, wi_row, wi_2, N0, N1, N2, N3, N4, N5, N6, N7, N8, N9, N10, N11, N12, N13, N14, N15, N16, N17, N18, N19, N20, N21, N22, N23, N24, N25, N26, N27, N28, N29, N30, N31, N32, N33, N34, N35, N36, N37, N38, N39, N40, N41, N42, N43, N45, N48, N57, N59, N88, N89, N97, N99, N120, N121, N122, N179, N200, N255, N300, N400, N880, N900, N999, N1019, N50000000, N100000000, N1000000000, N2147483647, N2147483648, h, e, refR]
    · rw [if_neg c2]
      by_cases c3 : y = 0
      · rw [if_pos c3]
        unfold f_X7_ticks refW
        simp (disch := omega) only [↓reduceIte, gd_t, bd_s, nm_W, nm_I, I_add, I_sub, I_mul, I_neg, I_le_t, I_le_f, I_lt_t, I_lt_f, I_eq_t, I_eq_f, I_inb', I_ix', Int.toNat_natCast, decide_true, decide_false, Bool.not_false, Bool.not_true, if_true, if_false, wi_eq, wi_eq', wi_ne, wi_row, wi_2, N0, N1, N2, N3, N4, N5, N6, N7, N8, N9, N10, N11, N12, N13, N14, N15, N16, N17, N18, N19, N20, N21, N22, N23, N24, N25, N26, N27, N28, N29, N30, N31, N32, N33, N34, N35, N36, N37, N38, N39, N40, N41, N42, N43, N45, N48, N57, N59, N88, N89, N97, N99, N120, N121, N122, N179, N200, N255, N300, N400, N880, N900, N999, N1019, N50000000, N100000000, N1000000000, N2147483647, N2147483648, h, e, w36, h36, refR]
      · rw [if_neg c3]
        unfold f_X7_ticks
        simp (disch := omega) only [↓reduceIte, gd_t, bd_s, nm_W, nm_I, I_add, I_sub, I_mul, I_neg, I_le_t, I_le_f, I_lt_t, I_lt_f, I_eq_t, I_eq_f, I_inb', I_ix', Int.toNat_natCast, decide_true, decide_false, Bool.not_false, Bool.not_true, if_true, if_false, wi_eq, wi_eq', wi_ne, wi_row, wi_2, N0, N1, N2, N3, N4, N5, N6, N7, N8, N9, N10, N11, N12, N13, N14, N15, N16, N17, N18, N19, N20, N21, N22, N23, N24, N25, N26, N27, N28, N29, N30, N31, N32, N33, N34, N35, N36, N37, N38, N39, N40, N41, N42, N43, N45, N48, N57, N59, N88, N89, N97, N99, N120, N121, N122, N179, N200, N255, N300, N400, N880, N900, N999, N1019, N50000000, N100000000, N1000000000, N2147483647, N2147483648, h, e, w36, h36]
theorem m_ticks (x : Int32) : MT (f_X6_ticks x) (f_X7_ticks x) := by
  intro σ τ B ⟨m, V, E, pres, kp, d, p, L, W, dl, pl, et, b, t, s, rd, h, n, g, hG⟩ hB
  obtain ⟨q, rfl, hq⟩ := argI x
  obtain ⟨bm, m10, m63⟩ := bMm hG.1
  have m24 : m = 11 ∨ m = 24 := by have := hG.1; omega
  have hQ := hG.2.2.1.1
  have tB := hG.2.2.1.2
  have c1 := cWithin (σ := σ) (lo := 1) (hi := 200) hq (by unfold R; omega) (by unfold R; omega)
  have c2 := rIn (σ := wi τ 102 0 (I 0)) (lo := 1) (hi := 200) hq (by unfold R; omega) (by unfold R; omega)
  have er := ticks_r (q := q) hG.2.2.2.1.2.1 (bn_bnd pres) c2 (bn_bnd _) hQ.2.2.1.1.2 (bn_bnd b)
  obtain ⟨x, σ', τ', k1, k2, k3⟩ := act_ok (B' := B + 200) (a := 1) (nn := bn (decide (1 ≤ q ∧ q ≤ 200))) (ss := bn b) (low := I (-1)) (K := fun σ4 => f_X6_ticks_35 FU (I q) (σ4.1 63 3) (I 0) σ4) (fr := f_X7_ticks (I q))
    hG (by omega) (by omega) (bn_bnd _) (bn_bnd _)
    (fun hc => by
      rw [er]
      rcases tc_cases (pres := pres) (a := 1) (n := bn (decide (1 ≤ q ∧ q ≤ 200))) (s := bn b) with ⟨q1, q2⟩ | ⟨-, q2, -⟩ | ⟨q1, -, q2, q3⟩ | ⟨q1, -, q2, q3, q4⟩ | ⟨-, -, -, -, q2⟩
      · rw [q2, if_pos (by rw [q1]; rfl)]; rfl
      · omega
      · rw [q3, if_neg (by rw [q1]; decide), if_pos q2]; rfl
      · rw [q4, if_neg (by rw [q1]; decide), if_neg q2, if_pos q3]; rfl
      · exact absurd q2 hc)
    (fun hp _ hn hs => by
      have y := bn_1 hn
      have bt : b = true := by
        cases e : b with
        | true => rfl
        | false => rw [e] at hs; cases hs
      subst bt
      rw [if_neg (by rw [hp]; decide), if_neg (by omega), if_neg (by decide)] at er
      have Q2 : QQ m 63 (wi σ 0 12 (I 0)) (wi τ 102 0 (I 0)) V E d p L W dl pl et true t s rd h n g := QQ_congr hQ m63 (fun k a1 a2 => wi_row (by omega)) (fun k a1 a2 => wi_row (by omega)) (fun i a1 a2 => wi_ne (by omega)) (wi_row (by decide)) (wi_row (by decide)) (wi_row (by decide)) (wi_row (by decide))
      obtain ⟨σ', τ1, z, d', s', rd', h', n', g', b1, b2, b3, ⟨⟨f1, f2⟩, ⟨f3, f4, f5⟩⟩⟩ := ticks_ok (N := q) (x2 := (wi σ 0 12 (I 0)).1 63 3) m10 m63 bm (by omega) y.2 q.toNat FU FU 0 t s rd (I 0) d h n g (wi σ 0 12 (I 0)) (wi τ 102 0 (I 0)) (by omega) (by omega) (by show _ < 6000; omega) (by show _ < 6000; omega) Q2 (by omega) hG.2.1 (addI0 _).symm
      obtain ⟨τ', hτ'⟩ : ∃ x, x = wi (wi τ1 102 1 (I 0)) 102 2 (I (-1)) := ⟨_, rfl⟩
      have QA : QQ m 63 σ' τ' V E d' p L W dl pl et true (t + (q.toNat : Int)) s' rd' h' n' g' := QQ_congr b3 m63 (fun _ _ _ => rfl) (fun _ _ _ => rfl) (fun i g1 g2 => by rw [hτ', wi_ne (by omega), wi_ne (by omega)]) (by rw [hτ', wi_row (by decide), wi_row (by decide)]) (by rw [hτ', wi_row (by decide), wi_row (by decide)]) (by rw [hτ', wi_row (by decide), wi_row (by decide)]) (by rw [hτ', wi_row (by decide), wi_row (by decide)])
      have ec : ∀ k, k ≠ 0 → k < 4 ∨ 9 < k → k ≠ m + 9 → k < 63 ∨ 75 < k → σ'.1 k = σ.1 k := fun k g1 g2 g3 g4 => by rw [f1 k g2 g3 (by omega), wi_row g1]
      have ek : ∀ k, k ≠ 102 → k ≠ 112 → k ≠ 116 → k ≠ 117 → τ'.1 k = τ.1 k := fun k g1 g2 g3 g4 => by rw [hτ', wi_row g1, wi_row g1, f3 k g1 g2 g3 g4, wi_row g1]
      have e2 : ∀ i, 3 ≤ i → i ≠ 37 → i ≠ 38 → τ'.1 102 i = τ.1 102 i := fun i g1 g2 g3 => by rw [hτ', wi_ne (by omega), wi_ne (by omega), f4 i g2 g3, wi_ne (by omega)]
      refine ⟨z, σ', τ', b1, by rw [er, b2, goodR, bd_s, hτ'], ⟨m, V, E, pres, kp, d', p, L, W, dl, pl, et, true, _, s', rd', h', n', g', GA_act hG hp (by omega) QA (by omega) (fun k hk => ec k (by omega) (by omega) (by omega) (by omega)) (fun i hi => by rw [f1 0 (by omega) (by omega) (by omega), wi_ne hi]) (by rw [f2, wi_2]) (fun k g1 g2 g3 => ek k (by omega) g3 (by omega) (by omega)) (fun i g1 g2 => e2 i g1 (by omega) (by omega)) (by rw [f1 0 (by omega) (by omega) (by omega), wi_eq]) (by rw [hτ', wi_ne (by decide), wi_eq]) (by rw [hτ', wi_eq])⟩, ⟨fun k hk => f1 k (by omega) (by omega) (by omega), by rw [f2]⟩, ⟨fun k hk => ek k (by omega) (by omega) (by omega) (by omega), by rw [hτ', wi_2, wi_2, f5, wi_2]⟩⟩)
  refine ⟨x, σ', τ', ?_, k2, k3⟩
  unfold f_X6_ticks
  rw [show (1 : Int32) = I 1 from rfl, show (200 : Int32) = I 200 from rfl, c1, bd_s, hQ.2.2.1.1.1]
  exact k1
end
section
/-! PURE: fee -/
def df (d : MD) (i : Nat) (x : Int) : MD := ((d.1.1, d.1.2.1, (fun j => if j = i then x else d.1.2.2.1 j), d.1.2.2.2), d.2)
theorem MDok_df {d : MD} {V i : Nat} {x : Int} (h : MDok d V) (h1 : -9 ≤ x) (h2 : x ≤ 9) : MDok (df d i x) V := by
  refine ⟨h.1, fun v hv => ?_⟩
  obtain ⟨a, b, c, e, f, g⟩ := h.2 v hv
  refine ⟨a, b, ?_, e, f, g⟩
  show -9 ≤ (if v = i then x else d.fe v) ∧ (if v = i then x else d.fe v) ≤ 9
  split
  · exact ⟨h1, h2⟩
  · exact c
theorem CV_df {m : Nat} {σ : Wd} {V i : Nat} {d : MD} {x : Int} (h : CV m σ V d) : CV m (wi σ (m + 3) i (I x)) V (df d i x) := by
  refine ⟨by rw [wi_row (by omega)]; exact h.1, fun v hv => ?_⟩
  obtain ⟨a, b, c, e, f, g⟩ := h.2 v hv
  rw [wi_row (show m + 1 ≠ m + 3 by omega), wi_row (show m + 2 ≠ m + 3 by omega), wi_row (show m + 4 ≠ m + 3 by omega), wi_row (show m + 6 ≠ m + 3 by omega), wi_row (show m + 8 ≠ m + 3 by omega), wi_row (show m + 9 ≠ m + 3 by omega)]
  refine ⟨a, b, ?_, e, f, g⟩
  show _ = I (if v = i then x else d.fe v)
  by_cases q : v = i
  · rw [if_pos q, q, wi_eq]
  · rw [if_neg q, wi_ne q]; exact c
theorem RV_df {τ : Wd} {V i : Nat} {d : MD} {x : Int} (h : RV τ V d) (hV : V ≤ 5) (hl : ∀ v, v < V → d.lv v ≤ 6) (hi : i < V) : RV (wi τ 112 (30 + i) (I x)) V (df d i x) := by
  refine ⟨by rw [wi_row (by decide)]; exact h.1, fun v hv => ?_⟩
  obtain ⟨a, b, c, e, f, g⟩ := h.2 v hv
  have := hl v hv
  rw [wi_row (show 103 ≠ 112 by decide), wi_row (show 104 ≠ 112 by decide)]
  refine ⟨a, b, ?_, e, f, fun k hk => ⟨(g k hk).1, ?_⟩⟩
  · show _ = I (if v = i then x else d.fe v)
    by_cases q : v = i
    · rw [if_pos q, q, wi_eq]
    · rw [if_neg q, wi_ne (by omega)]; exact c
  · have hk : k < d.lv v := hk
    rw [wi_ne (by omega)]
    exact (g k hk).2
theorem fee_r {τ : Wd} {v : Nat} {q a y f : Int} (v5 : v < 5) (e1 : f_X7_isVenue (I (v : Int)) (wi τ 102 0 (I 0)) = some (I 1, wi τ 102 0 (I 0))) (e : f_X7_in (I q) (I (-9)) (I 9) (wi τ 102 0 (I 0)) = some (I a, wi τ 102 0 (I 0))) (ha : 0 ≤ a ∧ a ≤ 1) (h36 : τ.1 112 36 = I y) (hy : 0 ≤ y ∧ y ≤ 1) (hf : τ.1 112 (30 + v) = I f) :
    f_X7_fee (I (v : Int)) (I q) τ = if a = 0 then some (I (-2147483648), refW τ (I 2)) else if y = 1 then some (I (-2147483648), refW τ (I 5)) else some (I f, wi (wi (wi (wi τ 102 0 (I 0)) 112 (30 + v) (I q)) 102 1 (I 0)) 102 2 (I (-1))) := by
  have w36 : Int.toNat 36 = 36 := rfl
  have w30 : ((30 : Int) + (v : Int)).toNat = 30 + v := by omega
  by_cases c2 : a = 0
  · rw [if_pos c2]
    unfold f_X7_fee refW
    simp (disch := omega) only [↓reduceIte, gd_t, bd_s, nm_W, nm_I, I_add, I_sub, I_mul, I_neg, I_le_t, I_le_f, I_lt_t, I_lt_f, I_eq_t, I_eq_f, I_inb', I_ix', Int.toNat_natCast, decide_true, decide_false, Bool.not_false, Bool.not_true, if_true, if_false, wi_eq, wi_eq', wi_ne, wi_row, wi_2, N0, N1, N2, N3, N4, N5, N6, N7, N8, N9, N10, N11, N12, N13, N14, N15, N16, N17, N18, N19, N20, N21, N22, N23, N24, N25, N26, N27, N28, N29, N30, N31, N32, N33, N34, N35, N36, N37, N38, N39, N40, N41, N42, N43, N45, N48, N57, N59, N88, N89, N97, N99, N120, N121, N122, N179, N200, N255, N300, N400, N880, N900, N999, N1019, N50000000, N100000000, N1000000000, N2147483647, N2147483648, e1, e, refL]
  · rw [if_neg c2]
    by_cases c3 : y = 1
    · rw [if_pos c3]
      unfold f_X7_fee refW
      simp (disch := omega) only [↓reduceIte, gd_t, bd_s, nm_W, nm_I, I_add, I_sub, I_mul, I_neg, I_le_t, I_le_f, I_lt_t, I_lt_f, I_eq_t, I_eq_f, I_inb', I_ix', Int.toNat_natCast, decide_true, decide_false, Bool.not_false, Bool.not_true, if_true, if_false, wi_eq, wi_eq', wi_ne, wi_row, wi_2, N0, N1, N2, N3, N4, N5, N6, N7, N8, N9, N10, N11, N12, N13, N14, N15, N16, N17, N18, N19, N20, N21, N22, N23, N24, N25, N26, N27, N28, N29, N30, N31, N32, N33, N34, N35, N36, N37, N38, N39, N40, N41, N42, N43, N45, N48, N57, N59, N88, N89, N97, N99, N120, N121, N122, N179, N200, N255, N300, N400, N880, N900, N999, N1019, N50000000, N100000000, N1000000000, N2147483647, N2147483648, e1, e, w36, h36, refL]
    · rw [if_neg c3]
      unfold f_X7_fee
      simp (disch := omega) only [↓reduceIte, gd_t, bd_s, nm_W, nm_I, I_add, I_sub, I_mul, I_neg, I_le_t, I_le_f, I_lt_t, I_lt_f, I_eq_t, I_eq_f, I_inb', I_ix', Int.toNat_natCast, decide_true, decide_false, Bool.not_false, Bool.not_true, if_true, if_false, wi_eq, wi_eq', wi_ne, wi_row, wi_2, N0, N1, N2, N3, N4, N5, N6, N7, N8, N9, N10, N11, N12, N13, N14, N15, N16, N17, N18, N19, N20, N21, N22, N23, N24, N25, N26, N27, N28, N29, N30, N31, N32, N33, N34, N35, N36, N37, N38, N39, N40, N41, N42, N43, N45, N48, N57, N59, N88, N89, N97, N99, N120, N121, N122, N179, N200, N255, N300, N400, N880, N900, N999, N1019, N50000000, N100000000, N1000000000, N2147483647, N2147483648, e1, e, w36, h36, w30, hf, goodR]
end
section
/-! PURE: fee, whole -/
theorem fee_1 {τ : Wd} {v q : Int} (e1 : f_X7_isVenue (I v) (wi τ 102 0 (I 0)) = some (I 0, wi τ 102 0 (I 0))) : f_X7_fee (I v) (I q) τ = some (I (-2147483648), refW τ (I 1)) := by
  unfold f_X7_fee refW
  simp (disch := omega) only [↓reduceIte, gd_t, bd_s, nm_W, nm_I, I_add, I_sub, I_mul, I_neg, I_le_t, I_le_f, I_lt_t, I_lt_f, I_eq_t, I_eq_f, I_inb', I_ix', Int.toNat_natCast, decide_true, decide_false, Bool.not_false, Bool.not_true, if_true, if_false, wi_eq, wi_eq', wi_ne, wi_row, wi_2, N0, N1, N2, N3, N4, N5, N6, N7, N8, N9, N10, N11, N12, N13, N14, N15, N16, N17, N18, N19, N20, N21, N22, N23, N24, N25, N26, N27, N28, N29, N30, N31, N32, N33, N34, N35, N36, N37, N38, N39, N40, N41, N42, N43, N45, N48, N57, N59, N88, N89, N97, N99, N120, N121, N122, N179, N200, N255, N300, N400, N880, N900, N999, N1019, N50000000, N100000000, N1000000000, N2147483647, N2147483648, e1, refL]
theorem c_fee {σ : Wd} {v q a c : Int} {b : Bool} (e1 : f_X6_isVenue (I v) σ = some (I a, σ)) (e : f_X6_within (I q) (I (-9)) (I 9) σ = some (I c, σ)) (h : σ.1 63 0 = I (bn b)) : f_X6_fee (I v) (I q) σ = f_X6_fee_29 (I v) (I q) (I a) (I c) (I (bn (!b))) σ := by
  cases b with
  | false =>
    have h : σ.1 63 0 = (0 : Int32) := h
    unfold f_X6_fee
    rw [show (-9 : Int32) = I (-9) from rfl, show (9 : Int32) = I 9 from rfl, e1, bd_s, e, bd_s, if_pos h]
    rfl
  | true =>
    have h : ¬ σ.1 63 0 = (0 : Int32) := by rw [h]; decide
    unfold f_X6_fee
    rw [show (-9 : Int32) = I (-9) from rfl, show (9 : Int32) = I 9 from rfl, e1, bd_s, e, bd_s, if_neg h]
    rfl
theorem m_fee (x y : Int32) : MT (f_X6_fee x y) (f_X7_fee x y) := by
  intro σ τ B ⟨m, V, E, pres, kp, d, p, L, W, dl, pl, et, b, t, s, rd, h, n, g, hG⟩ hB
  obtain ⟨v, rfl, hv⟩ := argI x
  obtain ⟨q, rfl, hq⟩ := argI y
  obtain ⟨bm, m10, m63⟩ := bMm hG.1
  have m24 : m = 11 ∨ m = 24 := by have := hG.1; omega
  have hQ := hG.2.2.1.1
  have h5 := hQ.1.1.1
  have g21 : (wi τ 102 0 (I 0)).1 102 21 = I (bn pres) := by rw [wi_ne (by decide)]; exact hG.2.2.2.1.2.1
  have g14 : (wi τ 102 0 (I 0)).1 102 14 = I (V : Int) := by rw [wi_ne (by decide)]; exact hQ.1.2.2.1.1
  have c0 := cIsV (σ := σ) hv hG.2.1 bm hQ.1.2.1.1 h5
  have c1 := cWithin (σ := σ) (lo := -9) (hi := 9) hq (by unfold R; omega) (by unfold R; omega)
  have c2 := rIn (σ := wi τ 102 0 (I 0)) (lo := -9) (hi := 9) hq (by unfold R; omega) (by unfold R; omega)
  have er : pres = true → 0 ≤ v → v < (V : Int) → ∃ u : Nat, v = (u : Int) ∧ u < V ∧ f_X7_fee (I v) (I q) τ = if bn (decide (-9 ≤ q ∧ q ≤ 9)) = 0 then some (I (-2147483648), refW τ (I 2)) else if bn b = 1 then some (I (-2147483648), refW τ (I 5)) else some (I (d.fe u), wi (wi (wi (wi τ 102 0 (I 0)) 112 (30 + u) (I q)) 102 1 (I 0)) 102 2 (I (-1))) := fun hp v0 v1 => by
    have ev := rIsV1 (τ := wi τ 102 0 (I 0)) (x := bn pres) hv g21 (by rw [hp]; rfl) g14 h5 v0 v1
    obtain ⟨u, rfl⟩ := Int.eq_ofNat_of_zero_le v0
    exact ⟨u, rfl, by omega, fee_r (by omega) ev c2 (bn_bnd _) hQ.2.2.1.1.2 (bn_bnd b) (hQ.1.2.2.1.2 u (by omega)).2.2.1⟩
  obtain ⟨x, σ', τ', k1, k2, k3⟩ := act_ok (B' := B + 200) (a := bn (decide (0 ≤ v ∧ v < (V : Int)))) (nn := bn (decide (-9 ≤ q ∧ q ≤ 9))) (ss := bn (!b)) (low := I (-2147483648)) (K := fun σ2 => gd (bM (σ2.2.2 0 4)) (gd (inb (I v) 5) (gd (bM (σ2.2.2 0 4)) (gd (inb (I v) 5) (nmW (wi σ2 ((σ2.2.2 0 4) + 3) (ix (I v)) (I q)) fun σ5 => some (σ2.1 ((σ2.2.2 0 4) + 3) (ix (I v)), σ5)))))) (fr := f_X7_fee (I v) (I q))
    hG (by omega) (bn_bnd _) (bn_bnd _) (bn_bnd _)
    (fun hc => by
      rcases tc_cases (pres := pres) (a := bn (decide (0 ≤ v ∧ v < (V : Int)))) (n := bn (decide (-9 ≤ q ∧ q ≤ 9))) (s := bn (!b)) with ⟨q1, q2⟩ | ⟨q1, q2, q3⟩ | ⟨q1, q2, q3, q4⟩ | ⟨q1, q2, q3, q4, q5⟩ | ⟨-, -, -, -, q2⟩
      · rw [q2]; exact fee_1 (rIsV0 hv g21 (bn_bnd _) g14 h5 (Or.inl (by rw [q1]; rfl)))
      · rw [q3]; exact fee_1 (rIsV0 hv g21 (bn_bnd _) g14 h5 (Or.inr (bn_0 q2)))
      · have y := bn_n0 q2
        obtain ⟨u, -, -, e⟩ := er q1 y.1 y.2
        rw [q4, e, if_pos q3]; rfl
      · have y := bn_n0 q2
        obtain ⟨u, -, -, e⟩ := er q1 y.1 y.2
        rw [q5, e, if_neg q3, if_pos (by cases b with
          | true => rfl
          | false => cases q4)]; rfl
      · exact absurd q2 hc)
    (fun hp ha hn hs => by
      have yv := bn_1 ha
      have yq := bn_1 hn
      have bf : b = false := by
        cases e : b with
        | true => rw [e] at hs; cases hs
        | false => rfl
      subst bf
      obtain ⟨u, rfl, hu, e⟩ := er hp yv.1 yv.2
      rw [if_neg (by omega), if_neg (by decide)] at e
      obtain ⟨hM, hE, hR, hN, hP, hL, hn, hrd, hb, hz⟩ := hQ
      obtain ⟨τ', hτ'⟩ : ∃ x, x = wi (wi (wi (wi τ 102 0 (I 0)) 112 (30 + u) (I q)) 102 1 (I 0)) 102 2 (I (-1)) := ⟨_, rfl⟩
      obtain ⟨σ', hσ'⟩ : ∃ x, x = wi (wi σ 0 12 (I 0)) (m + 3) u (I q) := ⟨_, rfl⟩
      have fc : ∀ k, k ≠ 0 → k ≠ m + 3 → σ'.1 k = σ.1 k := fun k g1 g2 => by rw [hσ', wi_row g2, wi_row g1]
      have fk : ∀ k, k ≠ 102 → k ≠ 112 → τ'.1 k = τ.1 k := fun k g1 g2 => by rw [hτ', wi_row g1, wi_row g1, wi_row g2, wi_row g1]
      have f2 : ∀ i, 3 ≤ i → τ'.1 102 i = τ.1 102 i := fun i g1 => by rw [hτ', wi_ne (by omega), wi_ne (by omega), wi_row (by decide), wi_ne (by omega)]
      have fx : ∀ i, 35 ≤ i → τ'.1 112 i = τ.1 112 i := fun i g1 => by rw [hτ', wi_row (by decide), wi_row (by decide), wi_ne (by omega), wi_row (by decide)]
      have cv' : CV m σ' V (df d u q) := by rw [hσ']; exact CV_df (CV_rows hM.2.1 (fun k g1 g2 => wi_row (by omega)))
      have rv' : RV τ' V (df d u q) := by
        have r1 : RV (wi (wi τ 102 0 (I 0)) 112 (30 + u) (I q)) V (df d u q) := RV_df (RV_congr hM.2.2.1 (by rw [wi_ne (by decide)]) (wi_row (by decide)) (wi_row (by decide)) (wi_row (by decide))) h5 (lv6 hM.1) hu
        exact RV_congr r1 (by rw [hτ', wi_ne (by decide), wi_ne (by decide)]) (by rw [hτ', wi_row (by decide), wi_row (by decide)]) (by rw [hτ', wi_row (by decide), wi_row (by decide)]) (by rw [hτ', wi_row (by decide), wi_row (by decide)])
      have QQ' : QQ m 63 σ' τ' V E (df d u q) p L W dl pl et false t s rd h n g := by
        refine ⟨QM_congr hM (MDok_df hM.1 yq.1 yq.2) cv' rv' (fun i hi => by rw [fc m (by omega) (by omega)]) (fc _ (by omega) (by omega)) (fc _ (by omega) (by omega)) (f2 12 (by decide)) (f2 13 (by decide)) (fk 103 (by decide) (by decide)) (fx 35 (by decide)) (fun v hv => fx _ (by omega)), QE_congr hE (by rw [fc m (by omega) (by omega)]) (fc _ (by omega) (by omega)) (fc _ (by omega) (by omega)) (fc _ (by omega) (by omega)) (f2 15 (by decide)) (fk 105 (by decide) (by decide)),
          QR_rows hR (fun i _ => by rw [fc 63 (by decide) (by omega)]) (fun i _ _ => fx i (by omega)) (by rw [fc 63 (by decide) (by omega), fx 42 (by decide)]; exact hR.2.2.2.2.2.2), ?_, fun w hw => QP_congr (hP w hw) (fun k g1 g2 => by rw [fc k (by omega) (by omega)]) (fun i g1 g2 => fx i (by omega)) (fk 103 (by decide) (by decide)), LR_congr hL rfl rfl (fun k g1 g2 => fc k (by omega) (by omega)) (fun i hi => fx i (by omega)), hn, by rw [fc 63 (by decide) (by omega)]; exact hrd, hb, hz⟩
        obtain ⟨np, n1, n2⟩ := hN
        exact ⟨np, by rw [fc 63 (by decide) (by omega)]; exact n1, n2⟩
      have tB := hG.2.2.1.2
      refine ⟨I (d.fe u), σ', τ', ?_, by rw [e, hτ'], ⟨m, V, E, pres, kp, df d u q, p, L, W, dl, pl, et, false, t, s, rd, h, n, g, GA_act hG hp (by omega) QQ' (by omega) (fun k hk => fc k (by omega) (by omega)) (fun i hi => by rw [hσ', wi_row (by omega), wi_ne hi]) (by rw [hσ', wi_2, wi_2]) (fun k g1 g2 g3 => fk k (by omega) g3) (fun i g1 _ => f2 i g1) (by rw [hσ', wi_row (by omega), wi_eq]) (by rw [hτ', wi_ne (by decide), wi_eq]) (by rw [hτ', wi_eq])⟩, ⟨fun k hk => by rw [hσ', wi_row (by omega)], by rw [hσ', wi_2]⟩, ⟨fun k hk => fk k (by omega) (by omega), by rw [hτ', wi_2, wi_2, wi_2, wi_2]⟩⟩
      have hm : (wi σ 0 12 (I 0)).2.2 0 4 = m := hG.2.1
      have i1 : inb (I (u : Int)) 5 = true := inI (by omega) (by decide)
      have i2 : ix (I (u : Int)) = u := ixI (by omega)
      have fe := (hM.2.1.2 u hu).2.2.1
      show gd (bM ((wi σ 0 12 (I 0)).2.2 0 4)) (gd (inb (I (u : Int)) 5) (gd (bM ((wi σ 0 12 (I 0)).2.2 0 4)) (gd (inb (I (u : Int)) 5) (nmW (wi (wi σ 0 12 (I 0)) (((wi σ 0 12 (I 0)).2.2 0 4) + 3) (ix (I (u : Int))) (I q)) fun σ5 => some ((wi σ 0 12 (I 0)).1 (((wi σ 0 12 (I 0)).2.2 0 4) + 3) (ix (I (u : Int))), σ5))))) = _
      rw [hm, bm, i1, gd_t, gd_t, gd_t, gd_t, nm_W, i2, wi_row (show m + 3 ≠ 0 by omega), fe, hσ'])
  refine ⟨x, σ', τ', ?_, k2, k3⟩
  rw [c_fee c0 c1 hQ.2.2.1.1.1]
  exact k1
end
section
/-! PURE: entry -/
theorem c_entry {σ : Wd} {i w a c C : Int} (h : σ.1 72 0 = I C) (e1 : f_X6_within (I i) (I 0) (I (C - 1)) σ = some (I a, σ)) (e2 : f_X6_within (I w) (I 0) (I 2) σ = some (I c, σ)) (ha : 0 ≤ a ∧ a ≤ 1) (hc : 0 ≤ c ∧ c ≤ 1) : f_X6_entry (I i) (I w) σ = f_X6_entry_35 (I i) (I w) (I (a * c)) σ := by
  unfold f_X6_entry f_X6_entry_34
  by_cases c1 : a = 0
  · simp (disch := omega) only [↓reduceIte, gd_t, bd_s, nm_W, nm_I, I_add, I_sub, I_mul, I_neg, I_le_t, I_le_f, I_lt_t, I_lt_f, I_eq_t, I_eq_f, I_inb', I_ix', Int.toNat_natCast, decide_true, decide_false, Bool.not_false, Bool.not_true, if_true, if_false, wi_eq, wi_eq', wi_ne, wi_row, wi_2, N0, N1, N2, N3, N4, N5, N6, N7, N8, N9, N10, N11, N12, N13, N14, N15, N16, N17, N18, N19, N20, N21, N22, N23, N24, N25, N26, N27, N28, N29, N30, N31, N32, N33, N34, N35, N36, N37, N38, N39, N40, N41, N42, N43, N45, N48, N57, N59, N88, N89, N97, N99, N120, N121, N122, N179, N200, N255, N300, N400, N880, N900, N999, N1019, N50000000, N100000000, N1000000000, N2147483647, N2147483648, h, e1]
    rw [c1, Int.zero_mul]
  · have a1 : a = 1 := by omega
    by_cases c2 : c = 0
    · simp (disch := omega) only [↓reduceIte, gd_t, bd_s, nm_W, nm_I, I_add, I_sub, I_mul, I_neg, I_le_t, I_le_f, I_lt_t, I_lt_f, I_eq_t, I_eq_f, I_inb', I_ix', Int.toNat_natCast, decide_true, decide_false, Bool.not_false, Bool.not_true, if_true, if_false, wi_eq, wi_eq', wi_ne, wi_row, wi_2, N0, N1, N2, N3, N4, N5, N6, N7, N8, N9, N10, N11, N12, N13, N14, N15, N16, N17, N18, N19, N20, N21, N22, N23, N24, N25, N26, N27, N28, N29, N30, N31, N32, N33, N34, N35, N36, N37, N38, N39, N40, N41, N42, N43, N45, N48, N57, N59, N88, N89, N97, N99, N120, N121, N122, N179, N200, N255, N300, N400, N880, N900, N999, N1019, N50000000, N100000000, N1000000000, N2147483647, N2147483648, h, e1, e2]
      rw [c2, Int.mul_zero]
    · simp (disch := omega) only [↓reduceIte, gd_t, bd_s, nm_W, nm_I, I_add, I_sub, I_mul, I_neg, I_le_t, I_le_f, I_lt_t, I_lt_f, I_eq_t, I_eq_f, I_inb', I_ix', Int.toNat_natCast, decide_true, decide_false, Bool.not_false, Bool.not_true, if_true, if_false, wi_eq, wi_eq', wi_ne, wi_row, wi_2, N0, N1, N2, N3, N4, N5, N6, N7, N8, N9, N10, N11, N12, N13, N14, N15, N16, N17, N18, N19, N20, N21, N22, N23, N24, N25, N26, N27, N28, N29, N30, N31, N32, N33, N34, N35, N36, N37, N38, N39, N40, N41, N42, N43, N45, N48, N57, N59, N88, N89, N97, N99, N120, N121, N122, N179, N200, N255, N300, N400, N880, N900, N999, N1019, N50000000, N100000000, N1000000000, N2147483647, N2147483648, h, e1, e2]
      rw [a1, show c = 1 from by omega]
      rfl
theorem r_entry {τ : Wd} {i w a c C x : Int} (h : τ.1 102 21 = I x) (hx : 0 ≤ x ∧ x ≤ 1) (h88 : τ.1 112 88 = I C) (e1 : f_X7_in (I i) (I 0) (I (C - 1)) (wi τ 102 0 (I 0)) = some (I a, wi τ 102 0 (I 0))) (e2 : f_X7_in (I w) (I 0) (I 2) (wi τ 102 0 (I 0)) = some (I c, wi τ 102 0 (I 0))) (ha : 0 ≤ a ∧ a ≤ 1) (hc : 0 ≤ c ∧ c ≤ 1) : f_X7_entry (I i) (I w) τ = f_X7_entry_44 (I i) (I w) (I (x * (a * c))) (wi τ 102 0 (I 0)) := by
  have w88 : Int.toNat 88 = 88 := rfl
  unfold f_X7_entry f_X7_entry_43
  by_cases c0 : x = 0
  · simp (disch := omega) only [↓reduceIte, gd_t, bd_s, nm_W, nm_I, I_add, I_sub, I_mul, I_neg, I_le_t, I_le_f, I_lt_t, I_lt_f, I_eq_t, I_eq_f, I_inb', I_ix', Int.toNat_natCast, decide_true, decide_false, Bool.not_false, Bool.not_true, if_true, if_false, wi_eq, wi_eq', wi_ne, wi_row, wi_2, N0, N1, N2, N3, N4, N5, N6, N7, N8, N9, N10, N11, N12, N13, N14, N15, N16, N17, N18, N19, N20, N21, N22, N23, N24, N25, N26, N27, N28, N29, N30, N31, N32, N33, N34, N35, N36, N37, N38, N39, N40, N41, N42, N43, N45, N48, N57, N59, N88, N89, N97, N99, N120, N121, N122, N179, N200, N255, N300, N400, N880, N900, N999, N1019, N50000000, N100000000, N1000000000, N2147483647, N2147483648, h]
    rw [c0, Int.zero_mul]
  · have x1 : x = 1 := by omega
    rw [show x * (a * c) = a * c from by rw [x1, Int.one_mul]]
    by_cases c1 : a = 0
    · simp (disch := omega) only [↓reduceIte, gd_t, bd_s, nm_W, nm_I, I_add, I_sub, I_mul, I_neg, I_le_t, I_le_f, I_lt_t, I_lt_f, I_eq_t, I_eq_f, I_inb', I_ix', Int.toNat_natCast, decide_true, decide_false, Bool.not_false, Bool.not_true, if_true, if_false, wi_eq, wi_eq', wi_ne, wi_row, wi_2, N0, N1, N2, N3, N4, N5, N6, N7, N8, N9, N10, N11, N12, N13, N14, N15, N16, N17, N18, N19, N20, N21, N22, N23, N24, N25, N26, N27, N28, N29, N30, N31, N32, N33, N34, N35, N36, N37, N38, N39, N40, N41, N42, N43, N45, N48, N57, N59, N88, N89, N97, N99, N120, N121, N122, N179, N200, N255, N300, N400, N880, N900, N999, N1019, N50000000, N100000000, N1000000000, N2147483647, N2147483648, h, w88, h88, e1]
      rw [c1, Int.zero_mul]
    · have a1 : a = 1 := by omega
      by_cases c2 : c = 0
      · simp (disch := omega) only [↓reduceIte, gd_t, bd_s, nm_W, nm_I, I_add, I_sub, I_mul, I_neg, I_le_t, I_le_f, I_lt_t, I_lt_f, I_eq_t, I_eq_f, I_inb', I_ix', Int.toNat_natCast, decide_true, decide_false, Bool.not_false, Bool.not_true, if_true, if_false, wi_eq, wi_eq', wi_ne, wi_row, wi_2, N0, N1, N2, N3, N4, N5, N6, N7, N8, N9, N10, N11, N12, N13, N14, N15, N16, N17, N18, N19, N20, N21, N22, N23, N24, N25, N26, N27, N28, N29, N30, N31, N32, N33, N34, N35, N36, N37, N38, N39, N40, N41, N42, N43, N45, N48, N57, N59, N88, N89, N97, N99, N120, N121, N122, N179, N200, N255, N300, N400, N880, N900, N999, N1019, N50000000, N100000000, N1000000000, N2147483647, N2147483648, h, w88, h88, e1, e2]
        rw [c2, Int.mul_zero]
      · simp (disch := omega) only [↓reduceIte, gd_t, bd_s, nm_W, nm_I, I_add, I_sub, I_mul, I_neg, I_le_t, I_le_f, I_lt_t, I_lt_f, I_eq_t, I_eq_f, I_inb', I_ix', Int.toNat_natCast, decide_true, decide_false, Bool.not_false, Bool.not_true, if_true, if_false, wi_eq, wi_eq', wi_ne, wi_row, wi_2, N0, N1, N2, N3, N4, N5, N6, N7, N8, N9, N10, N11, N12, N13, N14, N15, N16, N17, N18, N19, N20, N21, N22, N23, N24, N25, N26, N27, N28, N29, N30, N31, N32, N33, N34, N35, N36, N37, N38, N39, N40, N41, N42, N43, N45, N48, N57, N59, N88, N89, N97, N99, N120, N121, N122, N179, N200, N255, N300, N400, N880, N900, N999, N1019, N50000000, N100000000, N1000000000, N2147483647, N2147483648, h, w88, h88, e1, e2]
        rw [a1, show c = 1 from by omega]
        rfl
end
section
/-! PURE: entry, whole -/
theorem entry_K {σ : Wd} {i : Nat} {w : Int} {A P U : Int32} (hi : i < 30) (hw : 0 ≤ w ∧ w ≤ 2) (h1 : σ.1 73 i = A) (h2 : σ.1 74 i = P) (h3 : σ.1 75 i = U) : (if I w = (0 : Int32) then (gd (inb (I (i : Int)) 30) (some (σ.1 73 (ix (I (i : Int))), σ))) else (if I w = (1 : Int32) then (gd (inb (I (i : Int)) 30) (some (σ.1 74 (ix (I (i : Int))), σ))) else (gd (inb (I (i : Int)) 30) (some (σ.1 75 (ix (I (i : Int))), σ))))) = some (if w = 0 then A else if w = 1 then P else U, σ) := by
  rcases (show w = 0 ∨ w = 1 ∨ w = 2 by omega) with c | c | c
  · have ei : (if w = 0 then A else if w = 1 then P else U) = A := if_pos c
    rw [ei]
    simp (disch := omega) only [↓reduceIte, gd_t, bd_s, nm_W, nm_I, I_add, I_sub, I_mul, I_neg, I_le_t, I_le_f, I_lt_t, I_lt_f, I_eq_t, I_eq_f, I_inb', I_ix', Int.toNat_natCast, decide_true, decide_false, Bool.not_false, Bool.not_true, if_true, if_false, wi_eq, wi_eq', wi_ne, wi_row, wi_2, N0, N1, N2, N3, N4, N5, N6, N7, N8, N9, N10, N11, N12, N13, N14, N15, N16, N17, N18, N19, N20, N21, N22, N23, N24, N25, N26, N27, N28, N29, N30, N31, N32, N33, N34, N35, N36, N37, N38, N39, N40, N41, N42, N43, N45, N48, N57, N59, N88, N89, N97, N99, N120, N121, N122, N179, N200, N255, N300, N400, N880, N900, N999, N1019, N50000000, N100000000, N1000000000, N2147483647, N2147483648, h1]
  · have ei : (if w = 0 then A else if w = 1 then P else U) = P := by rw [if_neg (by omega), if_pos c]
    rw [ei]
    simp (disch := omega) only [↓reduceIte, gd_t, bd_s, nm_W, nm_I, I_add, I_sub, I_mul, I_neg, I_le_t, I_le_f, I_lt_t, I_lt_f, I_eq_t, I_eq_f, I_inb', I_ix', Int.toNat_natCast, decide_true, decide_false, Bool.not_false, Bool.not_true, if_true, if_false, wi_eq, wi_eq', wi_ne, wi_row, wi_2, N0, N1, N2, N3, N4, N5, N6, N7, N8, N9, N10, N11, N12, N13, N14, N15, N16, N17, N18, N19, N20, N21, N22, N23, N24, N25, N26, N27, N28, N29, N30, N31, N32, N33, N34, N35, N36, N37, N38, N39, N40, N41, N42, N43, N45, N48, N57, N59, N88, N89, N97, N99, N120, N121, N122, N179, N200, N255, N300, N400, N880, N900, N999, N1019, N50000000, N100000000, N1000000000, N2147483647, N2147483648, h2]
  · have ei : (if w = 0 then A else if w = 1 then P else U) = U := by rw [if_neg (by omega), if_neg (by omega)]
    rw [ei]
    simp (disch := omega) only [↓reduceIte, gd_t, bd_s, nm_W, nm_I, I_add, I_sub, I_mul, I_neg, I_le_t, I_le_f, I_lt_t, I_lt_f, I_eq_t, I_eq_f, I_inb', I_ix', Int.toNat_natCast, decide_true, decide_false, Bool.not_false, Bool.not_true, if_true, if_false, wi_eq, wi_eq', wi_ne, wi_row, wi_2, N0, N1, N2, N3, N4, N5, N6, N7, N8, N9, N10, N11, N12, N13, N14, N15, N16, N17, N18, N19, N20, N21, N22, N23, N24, N25, N26, N27, N28, N29, N30, N31, N32, N33, N34, N35, N36, N37, N38, N39, N40, N41, N42, N43, N45, N48, N57, N59, N88, N89, N97, N99, N120, N121, N122, N179, N200, N255, N300, N400, N880, N900, N999, N1019, N50000000, N100000000, N1000000000, N2147483647, N2147483648, h3]
theorem entry_R {τ : Wd} {i : Nat} {w : Int} {A P U : Int32} (hi : i < 30) (hw : 0 ≤ w ∧ w ≤ 2) (h1 : τ.1 112 (89 + 3 * i) = A) (h2 : τ.1 112 (90 + 3 * i) = P) (h3 : τ.1 112 (91 + 3 * i) = U) : gd (inb (((89 : Int32) + ((3 : Int32) * I (i : Int))) + I w) 179) (bd (f_X7_good (τ.1 112 (ix (((89 : Int32) + ((3 : Int32) * I (i : Int))) + I w))) τ) fun r3 σ4 => (f_X7_entry_77 r3 σ4)) = bd (f_X7_good (if w = 0 then A else if w = 1 then P else U) τ) (fun r s => some (r, s)) := by
  unfold f_X7_entry_77
  rcases (show w = 0 ∨ w = 1 ∨ w = 2 by omega) with c | c | c
  · have ei : (if w = 0 then A else if w = 1 then P else U) = A := if_pos c
    have t1 : ((89 : Int) + 3 * (i : Int) + w).toNat = 89 + 3 * i := by omega
    rw [ei]
    simp (disch := omega) only [↓reduceIte, gd_t, bd_s, nm_W, nm_I, I_add, I_sub, I_mul, I_neg, I_le_t, I_le_f, I_lt_t, I_lt_f, I_eq_t, I_eq_f, I_inb', I_ix', Int.toNat_natCast, decide_true, decide_false, Bool.not_false, Bool.not_true, if_true, if_false, wi_eq, wi_eq', wi_ne, wi_row, wi_2, N0, N1, N2, N3, N4, N5, N6, N7, N8, N9, N10, N11, N12, N13, N14, N15, N16, N17, N18, N19, N20, N21, N22, N23, N24, N25, N26, N27, N28, N29, N30, N31, N32, N33, N34, N35, N36, N37, N38, N39, N40, N41, N42, N43, N45, N48, N57, N59, N88, N89, N97, N99, N120, N121, N122, N179, N200, N255, N300, N400, N880, N900, N999, N1019, N50000000, N100000000, N1000000000, N2147483647, N2147483648, t1, h1]
  · have ei : (if w = 0 then A else if w = 1 then P else U) = P := by rw [if_neg (by omega), if_pos c]
    have t1 : ((89 : Int) + 3 * (i : Int) + w).toNat = 90 + 3 * i := by omega
    rw [ei]
    simp (disch := omega) only [↓reduceIte, gd_t, bd_s, nm_W, nm_I, I_add, I_sub, I_mul, I_neg, I_le_t, I_le_f, I_lt_t, I_lt_f, I_eq_t, I_eq_f, I_inb', I_ix', Int.toNat_natCast, decide_true, decide_false, Bool.not_false, Bool.not_true, if_true, if_false, wi_eq, wi_eq', wi_ne, wi_row, wi_2, N0, N1, N2, N3, N4, N5, N6, N7, N8, N9, N10, N11, N12, N13, N14, N15, N16, N17, N18, N19, N20, N21, N22, N23, N24, N25, N26, N27, N28, N29, N30, N31, N32, N33, N34, N35, N36, N37, N38, N39, N40, N41, N42, N43, N45, N48, N57, N59, N88, N89, N97, N99, N120, N121, N122, N179, N200, N255, N300, N400, N880, N900, N999, N1019, N50000000, N100000000, N1000000000, N2147483647, N2147483648, t1, h2]
  · have ei : (if w = 0 then A else if w = 1 then P else U) = U := by rw [if_neg (by omega), if_neg (by omega)]
    have t1 : ((89 : Int) + 3 * (i : Int) + w).toNat = 91 + 3 * i := by omega
    rw [ei]
    simp (disch := omega) only [↓reduceIte, gd_t, bd_s, nm_W, nm_I, I_add, I_sub, I_mul, I_neg, I_le_t, I_le_f, I_lt_t, I_lt_f, I_eq_t, I_eq_f, I_inb', I_ix', Int.toNat_natCast, decide_true, decide_false, Bool.not_false, Bool.not_true, if_true, if_false, wi_eq, wi_eq', wi_ne, wi_row, wi_2, N0, N1, N2, N3, N4, N5, N6, N7, N8, N9, N10, N11, N12, N13, N14, N15, N16, N17, N18, N19, N20, N21, N22, N23, N24, N25, N26, N27, N28, N29, N30, N31, N32, N33, N34, N35, N36, N37, N38, N39, N40, N41, N42, N43, N45, N48, N57, N59, N88, N89, N97, N99, N120, N121, N122, N179, N200, N255, N300, N400, N880, N900, N999, N1019, N50000000, N100000000, N1000000000, N2147483647, N2147483648, t1, h3]
end
section
/-! PURE: entry, joined -/
theorem m_entry (x y : Int32) : MT (f_X6_entry x y) (f_X7_entry x y) := by
  intro σ τ B ⟨m, V, E, pres, kp, d, p, L, W, dl, pl, et, b, t, s, rd, h, n, g, hG⟩ hB
  obtain ⟨i, rfl, hi⟩ := argI x
  obtain ⟨w, rfl, hw⟩ := argI y
  have hQ := hG.2.2.1.1
  obtain ⟨c, sl, l1, l2, l3, l4, -⟩ := hQ.2.2.2.2.2.1
  have c1 := cWithin (σ := σ) (lo := 0) (hi := (c : Int) - 1) hi (by unfold R; omega) (by unfold R; omega)
  have c2 := cWithin (σ := σ) (lo := 0) (hi := 2) hw (by unfold R; omega) (by unfold R; omega)
  have r1 := rIn (σ := wi τ 102 0 (I 0)) (lo := 0) (hi := (c : Int) - 1) hi (by unfold R; omega) (by unfold R; omega)
  have r2 := rIn (σ := wi τ 102 0 (I 0)) (lo := 0) (hi := 2) hw (by unfold R; omega) (by unfold R; omega)
  have ec := c_entry l2 c1 c2 (bn_bnd _) (bn_bnd _)
  have er := r_entry hG.2.2.2.1.2.1 (bn_bnd pres) l3 r1 r2 (bn_bnd _) (bn_bnd _)
  rw [bn_mul] at ec er
  rw [bn_mul] at er
  obtain ⟨x, σ', τ', k1, k2, k3, k4⟩ := run_ok (a := bn (decide (0 ≤ i ∧ i ≤ (c : Int) - 1) && decide (0 ≤ w ∧ w ≤ 2))) (a' := bn (pres && (decide (0 ≤ i ∧ i ≤ (c : Int) - 1) && decide (0 ≤ w ∧ w ≤ 2)))) (low := I (-1)) (K := fun σ2 => (if I w = (0 : Int32) then (gd (inb (I i) 30) (some (σ2.1 73 (ix (I i)), σ2))) else (if I w = (1 : Int32) then (gd (inb (I i) 30) (some (σ2.1 74 (ix (I i)), σ2))) else (gd (inb (I i) 30) (some (σ2.1 75 (ix (I i)), σ2)))))) (K' := fun σ2 => gd (inb (((89 : Int32) + ((3 : Int32) * I i)) + I w) 179) (bd (f_X7_good (σ2.1 112 (ix (((89 : Int32) + ((3 : Int32) * I i)) + I w))) σ2) fun r3 σ4 => (f_X7_entry_77 r3 σ4))) (Rf := f_X7_refused)
    hG (bn_bnd _) (bn_bnd _) (fun q => by rw [q, Bool.true_and]) (fun c τ => refR) (fun _ ha _ _ => by
      have q : (decide (0 ≤ i ∧ i ≤ (c : Int) - 1) && decide (0 ≤ w ∧ w ≤ 2)) = true := by
        cases e : (decide (0 ≤ i ∧ i ≤ (c : Int) - 1) && decide (0 ≤ w ∧ w ≤ 2)) with
        | true => rfl
        | false => rw [e] at ha; cases ha
      obtain ⟨q1, q2⟩ := Bool.and_eq_true_iff.mp q
      have yi := of_decide_eq_true q1
      have yw := of_decide_eq_true q2
      obtain ⟨j, rfl⟩ := Int.eq_ofNat_of_zero_le yi.1
      obtain ⟨-, -, -, e1, e2, e3⟩ := l4 j (by omega)
      exact ⟨_, _, _, entry_K (σ := wi σ 0 12 (I 0)) (A := σ.1 73 j) (P := σ.1 74 j) (U := σ.1 75 j) (by omega) yw rfl rfl rfl, entry_R (τ := wi τ 102 0 (I 0)) (by omega) yw (by rw [wi_row (by decide)]; exact e1) (by rw [wi_row (by decide)]; exact e2) (by rw [wi_row (by decide)]; exact e3), QFr, RQr⟩)
  refine ⟨x, σ', τ', ?_, ?_, ⟨m, V, E, pres, kp, d, p, L, W, dl, pl, et, b, t, s, rd, h, n, g, GA_B k3 (by omega)⟩, k4⟩
  · rw [ec]; exact k1
  · rw [er]; exact k2
end
