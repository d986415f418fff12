/-! PURE: the whole state of class (σ) and reference (τ) -/
def KK (σ τ : Wd) (V E : Nat) (p L : Int) (dl et : Nat → Int) (B : Int) : Prop := ∃ (d : MD) (W : Int) (pl : Nat → Int) (b : Bool) (t s rd : Int) (h n g : Nat → Int), QQ 37 76 σ (wc τ 112 (τ.1 113)) V E d p L W dl pl et b t s rd h n g ∧ t ≤ B
def TT (σ τ : Wd) : Prop := (τ.1 102 1 = σ.1 0 12 ∧ (σ.1 0 12 = I 4 → τ.1 102 2 = σ.1 1 2) ∧ (σ.1 0 12 ≠ I 4 → τ.1 102 2 = I (-1))) ∧ τ.1 102 33 = σ.1 0 13
def TP (σ τ : Wd) : Prop := ∃ tp : Nat, tp ≤ 900 ∧ σ.1 1 0 = I (tp : Int) ∧ τ.1 102 27 = I (tp : Int) ∧ ∀ i, i < tp → τ.1 115 i = σ.1 2 i ∧ -128 ≤ (σ.1 2 i).toInt ∧ (σ.1 2 i).toInt ≤ 127
def GA (m : Nat) (σ τ : Wd) (V E : Nat) (pres kp : Bool) (d : MD) (p L W : Int) (dl pl et : Nat → Int) (b : Bool) (t s rd : Int) (h n g : Nat → Int) (B : Int) : Prop :=
  ((m = 11 ∧ σ.2.2 0 3 = 24) ∨ (m = 24 ∧ σ.2.2 0 3 = 11)) ∧ σ.2.2 0 4 = m ∧ (QQ m 63 σ τ V E d p L W dl pl et b t s rd h n g ∧ t ≤ B)
  ∧ (σ.1 0 10 = I (bn pres) ∧ τ.1 102 21 = I (bn pres) ∧ (pres = false → V = 0 ∧ b = false)) ∧ (σ.1 0 11 = I (bn kp) ∧ τ.1 102 25 = I (bn kp) ∧ (kp = true → pres = true ∧ KK σ τ V E p L dl et B)) ∧ TT σ τ ∧ TP σ τ
def GG (σ τ : Wd) (B : Int) : Prop := ∃ (m V E : Nat) (pres kp : Bool) (d : MD) (p L W : Int) (dl pl et : Nat → Int) (b : Bool) (t s rd : Int) (h n g : Nat → Int), GA m σ τ V E pres kp d p L W dl pl et b t s rd h n g B
theorem KK_congr {σ τ σ' τ' : Wd} {V E : Nat} {p L : Int} {dl et : Nat → Int} {B B' : Int} (h : KK σ τ V E p L dl et B) (hB : B ≤ B') (c : ∀ k, 37 ≤ k → k ≤ 49 → σ'.1 k = σ.1 k) (c2 : ∀ k, 76 ≤ k → k ≤ 88 → σ'.1 k = σ.1 k) (e2 : ∀ i, 12 ≤ i → i ≤ 15 → τ'.1 102 i = τ.1 102 i) (e3 : τ'.1 103 = τ.1 103) (e4 : τ'.1 104 = τ.1 104) (e5 : τ'.1 105 = τ.1 105) (e6 : τ'.1 113 = τ.1 113) : KK σ' τ' V E p L dl et B' := by
  obtain ⟨d, W, pl, b, t, s, rd, h, n, g, q, tb⟩ := h
  refine ⟨d, W, pl, b, t, s, rd, h, n, g, QQ_congr q (by decide) (fun k g1 g2 => c k g1 (by omega)) (fun k g1 g2 => c2 k g1 (by omega)) (fun i g1 g2 => ?_) ?_ ?_ ?_ ?_, by omega⟩
  · rw [wc_row (by decide), wc_row (by decide)]; exact e2 i g1 g2
  · rw [wc_row (by decide), wc_row (by decide)]; exact e3
  · rw [wc_row (by decide), wc_row (by decide)]; exact e4
  · rw [wc_row (by decide), wc_row (by decide)]; exact e5
  · rw [wc_eq, wc_eq]; exact e6
/-- a call that changes nothing but what was told last -/
theorem GA_q {m V E : Nat} {σ τ σ' τ' : Wd} {pres kp : Bool} {d : MD} {p L W : Int} {dl pl et : Nat → Int} {b : Bool} {t s rd : Int} {h n g : Nat → Int} {B c : Int} (hG : GA m σ τ V E pres kp d p L W dl pl et b t s rd h n g B)
    (c1 : ∀ k, k ≠ 0 → k < 4 ∨ 10 < k → σ'.1 k = σ.1 k) (c2 : ∀ i, i ≠ 12 → σ'.1 0 i = σ.1 0 i) (c3 : σ'.2 = σ.2) (e1 : ∀ k, k ≠ 102 → k < 116 ∨ 119 < k → τ'.1 k = τ.1 k) (e2 : ∀ i, 3 ≤ i → i < 37 ∨ 39 < i → τ'.1 102 i = τ.1 102 i)
    (t1 : σ'.1 0 12 = I c) (t2 : τ'.1 102 1 = I c) (t3 : τ'.1 102 2 = I (-1)) (t4 : 0 ≤ c ∧ c ≤ 5 ∧ c ≠ 4) : GA m σ' τ' V E pres kp d p L W dl pl et b t s rd h n g B := by
  obtain ⟨g1, g2, ⟨g3, g4⟩, ⟨g5, g6, g7⟩, ⟨g8, g9, g10⟩, ⟨g11, g12⟩, ⟨tp, p1, p2, p3, p4⟩⟩ := hG
  have m50 : m = 11 ∨ m = 24 := by omega
  refine ⟨by rw [c3]; exact g1, by rw [c3]; exact g2, ⟨QQ_congr g3 (by omega) (fun k a1 a2 => c1 k (by omega) (by omega)) (fun k a1 a2 => c1 k (by omega) (by omega)) (fun i a1 a2 => e2 i (by omega) (by omega)) (e1 103 (by decide) (by decide)) (e1 104 (by decide) (by decide)) (e1 105 (by decide) (by decide)) (e1 112 (by decide) (by decide)), g4⟩, ⟨by rw [c2 10 (by decide)]; exact g5, by rw [e2 21 (by decide) (by decide)]; exact g6, g7⟩,
    ⟨by rw [c2 11 (by decide)]; exact g8, by rw [e2 25 (by decide) (by decide)]; exact g9, fun q => ⟨(g10 q).1, KK_congr (g10 q).2 (Int.le_refl _) (fun k a1 a2 => c1 k (by omega) (by omega)) (fun k a1 a2 => c1 k (by omega) (by omega)) (fun i a1 a2 => e2 i (by omega) (by omega)) (e1 103 (by decide) (by decide)) (e1 104 (by decide) (by decide)) (e1 105 (by decide) (by decide)) (e1 113 (by decide) (by decide))⟩⟩,
    ⟨⟨by rw [t1, t2], fun q => ?_, fun _ => t3⟩, by rw [c2 13 (by decide), e2 33 (by decide) (by decide)]; exact g12⟩, ⟨tp, p1, by rw [c1 1 (by decide) (by decide)]; exact p2, by rw [e2 27 (by decide) (by decide)]; exact p3, fun i hi => by rw [c1 2 (by decide) (by decide), e1 115 (by decide) (by decide)]; exact p4 i hi⟩⟩
  rw [t1, I_eq (by unfold R; omega) (by unfold R; omega)] at q
  omega
theorem GA_B {m V E : Nat} {σ τ : Wd} {pres kp : Bool} {d : MD} {p L W : Int} {dl pl et : Nat → Int} {b : Bool} {t s rd : Int} {h n g : Nat → Int} {B B' : Int} (hG : GA m σ τ V E pres kp d p L W dl pl et b t s rd h n g B) (hB : B ≤ B') : GA m σ τ V E pres kp d p L W dl pl et b t s rd h n g B' := by
  obtain ⟨g1, g2, ⟨g3, g4⟩, g5, ⟨g8, g9, g10⟩, g11⟩ := hG
  exact ⟨g1, g2, ⟨g3, by omega⟩, g5, ⟨g8, g9, fun q => ⟨(g10 q).1, KK_congr (g10 q).2 hB (fun _ _ _ => rfl) (fun _ _ _ => rfl) (fun _ _ _ => rfl) rfl rfl rfl rfl⟩⟩, g11⟩
/-! refusals -/
def tc (pres : Bool) (a n s : Int) : Int := if pres = false ∨ a = 0 then 1 else if n = 0 then 2 else if s = 0 then 5 else 0
theorem tc_b {pres : Bool} {a n s : Int} : 0 ≤ tc pres a n s ∧ tc pres a n s ≤ 5 ∧ tc pres a n s ≠ 4 := by
  unfold tc
  split
  · omega
  · split
    · omega
    · split <;> omega
theorem g48 {σ : Wd} {c : Int} (h : σ.1 0 12 = I c) (c0 : 0 ≤ c) (c1 : c ≤ 5) : f_X6_granted_48 σ = some (I (bn (decide (c = 0))), σ) := by
  by_cases q : c = 0
  · rw [decide_eq_true q, bn_t]
    unfold f_X6_granted_48
    simp (disch := omega) only [gd_t, bd_s, nm_W, nm_I, I_add, I_sub, I_mul, I_neg, I_le_t, I_le_f, I_lt_t, I_lt_f, I_eq_t, I_eq_f, I_inb', I_ix', Int.toNat_natCast, decide_true, decide_false, Bool.not_false, Bool.not_true, if_true, if_false, wi_eq, wi_eq', wi_ne, wi_row, wi_2, N0, N1, N2, N3, N4, N5, N6, N7, N8, N9, N10, N11, N12, N13, N14, N15, N16, N17, N18, N19, N20, N21, N22, N23, N24, N25, N26, N27, N28, N29, N30, N31, N32, N33, N34, N35, N36, N37, N38, N39, N40, N41, N42, N43, N45, N48, N57, N59, N88, N89, N97, N99, N120, N121, N122, N179, N200, N255, N300, N400, N880, N900, N999, N1019, N50000000, N100000000, N1000000000, N2147483647, N2147483648, h, f_X6_granted_60, isb_1]
  · rw [decide_eq_false q, bn_f]
    unfold f_X6_granted_48
    simp (disch := omega) only [gd_t, bd_s, nm_W, nm_I, I_add, I_sub, I_mul, I_neg, I_le_t, I_le_f, I_lt_t, I_lt_f, I_eq_t, I_eq_f, I_inb', I_ix', Int.toNat_natCast, decide_true, decide_false, Bool.not_false, Bool.not_true, if_true, if_false, wi_eq, wi_eq', wi_ne, wi_row, wi_2, N0, N1, N2, N3, N4, N5, N6, N7, N8, N9, N10, N11, N12, N13, N14, N15, N16, N17, N18, N19, N20, N21, N22, N23, N24, N25, N26, N27, N28, N29, N30, N31, N32, N33, N34, N35, N36, N37, N38, N39, N40, N41, N42, N43, N45, N48, N57, N59, N88, N89, N97, N99, N120, N121, N122, N179, N200, N255, N300, N400, N880, N900, N999, N1019, N50000000, N100000000, N1000000000, N2147483647, N2147483648, h, f_X6_granted_60, isb_0]
theorem cGrant {σ : Wd} {pres : Bool} {a n s : Int} (h : σ.1 0 10 = I (bn pres)) (ha : 0 ≤ a ∧ a ≤ 1) (hn : 0 ≤ n ∧ n ≤ 1) (hs : 0 ≤ s ∧ s ≤ 1) :
    f_X6_granted (I a) (I n) (I s) σ = some (I (bn (decide (tc pres a n s = 0))), wi σ 0 12 (I (tc pres a n s))) := by
  have tb := tc_b (pres := pres) (a := a) (n := n) (s := s)
  rw [← g48 (σ := wi σ 0 12 (I (tc pres a n s))) (c := tc pres a n s) wi_eq tb.1 tb.2.1]
  obtain ⟨x, hx⟩ : ∃ x, x = bn pres := ⟨_, rfl⟩
  have xb := bn_bnd pres
  rw [← hx] at h xb
  by_cases c1 : x = 0
  · have e : tc pres a n s = 1 := by
      unfold tc
      rw [if_pos (Or.inl (by cases pres with
        | false => rfl
        | true => rw [hx] at c1; cases c1))]
    rw [e]
    unfold f_X6_granted f_X6_granted_11
    simp (disch := omega) only [gd_t, bd_s, nm_W, nm_I, I_add, I_sub, I_mul, I_neg, I_le_t, I_le_f, I_lt_t, I_lt_f, I_eq_t, I_eq_f, I_inb', I_ix', Int.toNat_natCast, decide_true, decide_false, Bool.not_false, Bool.not_true, if_true, if_false, wi_eq, wi_eq', wi_ne, wi_row, wi_2, N0, N1, N2, N3, N4, N5, N6, N7, N8, N9, N10, N11, N12, N13, N14, N15, N16, N17, N18, N19, N20, N21, N22, N23, N24, N25, N26, N27, N28, N29, N30, N31, N32, N33, N34, N35, N36, N37, N38, N39, N40, N41, N42, N43, N45, N48, N57, N59, N88, N89, N97, N99, N120, N121, N122, N179, N200, N255, N300, N400, N880, N900, N999, N1019, N50000000, N100000000, N1000000000, N2147483647, N2147483648, h]
  · have pt : pres = true := by
      cases pres with
      | false => rw [hx] at c1; exact absurd rfl c1
      | true => rfl
    by_cases c2 : a = 0
    · have e : tc pres a n s = 1 := by unfold tc; rw [if_pos (Or.inr c2)]
      rw [e]
      unfold f_X6_granted f_X6_granted_11
      simp (disch := omega) only [gd_t, bd_s, nm_W, nm_I, I_add, I_sub, I_mul, I_neg, I_le_t, I_le_f, I_lt_t, I_lt_f, I_eq_t, I_eq_f, I_inb', I_ix', Int.toNat_natCast, decide_true, decide_false, Bool.not_false, Bool.not_true, if_true, if_false, wi_eq, wi_eq', wi_ne, wi_row, wi_2, N0, N1, N2, N3, N4, N5, N6, N7, N8, N9, N10, N11, N12, N13, N14, N15, N16, N17, N18, N19, N20, N21, N22, N23, N24, N25, N26, N27, N28, N29, N30, N31, N32, N33, N34, N35, N36, N37, N38, N39, N40, N41, N42, N43, N45, N48, N57, N59, N88, N89, N97, N99, N120, N121, N122, N179, N200, N255, N300, N400, N880, N900, N999, N1019, N50000000, N100000000, N1000000000, N2147483647, N2147483648, h]
    · have h1 : ¬ (pres = false ∨ a = 0) := fun q => by
        rcases q with q | q
        · rw [pt] at q; cases q
        · exact c2 q
      by_cases c3 : n = 0
      · have e : tc pres a n s = 2 := by unfold tc; rw [if_neg h1, if_pos c3]
        rw [e]
        unfold f_X6_granted
        simp (disch := omega) only [gd_t, bd_s, nm_W, nm_I, I_add, I_sub, I_mul, I_neg, I_le_t, I_le_f, I_lt_t, I_lt_f, I_eq_t, I_eq_f, I_inb', I_ix', Int.toNat_natCast, decide_true, decide_false, Bool.not_false, Bool.not_true, if_true, if_false, wi_eq, wi_eq', wi_ne, wi_row, wi_2, N0, N1, N2, N3, N4, N5, N6, N7, N8, N9, N10, N11, N12, N13, N14, N15, N16, N17, N18, N19, N20, N21, N22, N23, N24, N25, N26, N27, N28, N29, N30, N31, N32, N33, N34, N35, N36, N37, N38, N39, N40, N41, N42, N43, N45, N48, N57, N59, N88, N89, N97, N99, N120, N121, N122, N179, N200, N255, N300, N400, N880, N900, N999, N1019, N50000000, N100000000, N1000000000, N2147483647, N2147483648, h]
      · by_cases c4 : s = 0
        · have e : tc pres a n s = 5 := by unfold tc; rw [if_neg h1, if_neg c3, if_pos c4]
          rw [e]
          unfold f_X6_granted
          simp (disch := omega) only [gd_t, bd_s, nm_W, nm_I, I_add, I_sub, I_mul, I_neg, I_le_t, I_le_f, I_lt_t, I_lt_f, I_eq_t, I_eq_f, I_inb', I_ix', Int.toNat_natCast, decide_true, decide_false, Bool.not_false, Bool.not_true, if_true, if_false, wi_eq, wi_eq', wi_ne, wi_row, wi_2, N0, N1, N2, N3, N4, N5, N6, N7, N8, N9, N10, N11, N12, N13, N14, N15, N16, N17, N18, N19, N20, N21, N22, N23, N24, N25, N26, N27, N28, N29, N30, N31, N32, N33, N34, N35, N36, N37, N38, N39, N40, N41, N42, N43, N45, N48, N57, N59, N88, N89, N97, N99, N120, N121, N122, N179, N200, N255, N300, N400, N880, N900, N999, N1019, N50000000, N100000000, N1000000000, N2147483647, N2147483648, h]
        · have e : tc pres a n s = 0 := by unfold tc; rw [if_neg h1, if_neg c3, if_neg c4]
          rw [e]
          unfold f_X6_granted
          simp (disch := omega) only [gd_t, bd_s, nm_W, nm_I, I_add, I_sub, I_mul, I_neg, I_le_t, I_le_f, I_lt_t, I_lt_f, I_eq_t, I_eq_f, I_inb', I_ix', Int.toNat_natCast, decide_true, decide_false, Bool.not_false, Bool.not_true, if_true, if_false, wi_eq, wi_eq', wi_ne, wi_row, wi_2, N0, N1, N2, N3, N4, N5, N6, N7, N8, N9, N10, N11, N12, N13, N14, N15, N16, N17, N18, N19, N20, N21, N22, N23, N24, N25, N26, N27, N28, N29, N30, N31, N32, N33, N34, N35, N36, N37, N38, N39, N40, N41, N42, N43, N45, N48, N57, N59, N88, N89, N97, N99, N120, N121, N122, N179, N200, N255, N300, N400, N880, N900, N999, N1019, N50000000, N100000000, N1000000000, N2147483647, N2147483648, h]
theorem cWithin {σ : Wd} {z lo hi : Int} (hz : R z) (hl : R lo) (hh : R hi) : f_X6_within (I z) (I lo) (I hi) σ = some (I (bn (decide (lo ≤ z ∧ z ≤ hi))), σ) := by
  unfold R at hz hl hh
  by_cases c1 : z < lo
  · rw [decide_eq_false (by omega), bn_f]
    unfold f_X6_within
    simp (disch := omega) only [gd_t, bd_s, nm_W, nm_I, I_add, I_sub, I_mul, I_neg, I_le_t, I_le_f, I_lt_t, I_lt_f, I_eq_t, I_eq_f, I_inb', I_ix', Int.toNat_natCast, decide_true, decide_false, Bool.not_false, Bool.not_true, if_true, if_false, wi_eq, wi_eq', wi_ne, wi_row, wi_2, N0, N1, N2, N3, N4, N5, N6, N7, N8, N9, N10, N11, N12, N13, N14, N15, N16, N17, N18, N19, N20, N21, N22, N23, N24, N25, N26, N27, N28, N29, N30, N31, N32, N33, N34, N35, N36, N37, N38, N39, N40, N41, N42, N43, N45, N48, N57, N59, N88, N89, N97, N99, N120, N121, N122, N179, N200, N255, N300, N400, N880, N900, N999, N1019, N50000000, N100000000, N1000000000, N2147483647, N2147483648, f_X6_within_14, f_X6_within_15, isb_0]
  · by_cases c2 : hi < z
    · rw [decide_eq_false (by omega), bn_f]
      unfold f_X6_within
      simp (disch := omega) only [gd_t, bd_s, nm_W, nm_I, I_add, I_sub, I_mul, I_neg, I_le_t, I_le_f, I_lt_t, I_lt_f, I_eq_t, I_eq_f, I_inb', I_ix', Int.toNat_natCast, decide_true, decide_false, Bool.not_false, Bool.not_true, if_true, if_false, wi_eq, wi_eq', wi_ne, wi_row, wi_2, N0, N1, N2, N3, N4, N5, N6, N7, N8, N9, N10, N11, N12, N13, N14, N15, N16, N17, N18, N19, N20, N21, N22, N23, N24, N25, N26, N27, N28, N29, N30, N31, N32, N33, N34, N35, N36, N37, N38, N39, N40, N41, N42, N43, N45, N48, N57, N59, N88, N89, N97, N99, N120, N121, N122, N179, N200, N255, N300, N400, N880, N900, N999, N1019, N50000000, N100000000, N1000000000, N2147483647, N2147483648, f_X6_within_14, f_X6_within_15, isb_0]
    · rw [decide_eq_true ⟨by omega, by omega⟩, bn_t]
      unfold f_X6_within
      simp (disch := omega) only [gd_t, bd_s, nm_W, nm_I, I_add, I_sub, I_mul, I_neg, I_le_t, I_le_f, I_lt_t, I_lt_f, I_eq_t, I_eq_f, I_inb', I_ix', Int.toNat_natCast, decide_true, decide_false, Bool.not_false, Bool.not_true, if_true, if_false, wi_eq, wi_eq', wi_ne, wi_row, wi_2, N0, N1, N2, N3, N4, N5, N6, N7, N8, N9, N10, N11, N12, N13, N14, N15, N16, N17, N18, N19, N20, N21, N22, N23, N24, N25, N26, N27, N28, N29, N30, N31, N32, N33, N34, N35, N36, N37, N38, N39, N40, N41, N42, N43, N45, N48, N57, N59, N88, N89, N97, N99, N120, N121, N122, N179, N200, N255, N300, N400, N880, N900, N999, N1019, N50000000, N100000000, N1000000000, N2147483647, N2147483648, f_X6_within_15, isb_1]
theorem rIn {σ : Wd} {z lo hi : Int} (hz : R z) (hl : R lo) (hh : R hi) : f_X7_in (I z) (I lo) (I hi) σ = some (I (bn (decide (lo ≤ z ∧ z ≤ hi))), σ) := by
  unfold R at hz hl hh
  by_cases c1 : z < lo
  · rw [decide_eq_false (by omega), bn_f]
    unfold f_X7_in
    simp (disch := omega) only [gd_t, bd_s, nm_W, nm_I, I_add, I_sub, I_mul, I_neg, I_le_t, I_le_f, I_lt_t, I_lt_f, I_eq_t, I_eq_f, I_inb', I_ix', Int.toNat_natCast, decide_true, decide_false, Bool.not_false, Bool.not_true, if_true, if_false, wi_eq, wi_eq', wi_ne, wi_row, wi_2, N0, N1, N2, N3, N4, N5, N6, N7, N8, N9, N10, N11, N12, N13, N14, N15, N16, N17, N18, N19, N20, N21, N22, N23, N24, N25, N26, N27, N28, N29, N30, N31, N32, N33, N34, N35, N36, N37, N38, N39, N40, N41, N42, N43, N45, N48, N57, N59, N88, N89, N97, N99, N120, N121, N122, N179, N200, N255, N300, N400, N880, N900, N999, N1019, N50000000, N100000000, N1000000000, N2147483647, N2147483648, f_X7_in_14, f_X7_in_15, isb_0]
  · by_cases c2 : hi < z
    · rw [decide_eq_false (by omega), bn_f]
      unfold f_X7_in
      simp (disch := omega) only [gd_t, bd_s, nm_W, nm_I, I_add, I_sub, I_mul, I_neg, I_le_t, I_le_f, I_lt_t, I_lt_f, I_eq_t, I_eq_f, I_inb', I_ix', Int.toNat_natCast, decide_true, decide_false, Bool.not_false, Bool.not_true, if_true, if_false, wi_eq, wi_eq', wi_ne, wi_row, wi_2, N0, N1, N2, N3, N4, N5, N6, N7, N8, N9, N10, N11, N12, N13, N14, N15, N16, N17, N18, N19, N20, N21, N22, N23, N24, N25, N26, N27, N28, N29, N30, N31, N32, N33, N34, N35, N36, N37, N38, N39, N40, N41, N42, N43, N45, N48, N57, N59, N88, N89, N97, N99, N120, N121, N122, N179, N200, N255, N300, N400, N880, N900, N999, N1019, N50000000, N100000000, N1000000000, N2147483647, N2147483648, f_X7_in_14, f_X7_in_15, isb_0]
    · rw [decide_eq_true ⟨by omega, by omega⟩, bn_t]
      unfold f_X7_in
      simp (disch := omega) only [gd_t, bd_s, nm_W, nm_I, I_add, I_sub, I_mul, I_neg, I_le_t, I_le_f, I_lt_t, I_lt_f, I_eq_t, I_eq_f, I_inb', I_ix', Int.toNat_natCast, decide_true, decide_false, Bool.not_false, Bool.not_true, if_true, if_false, wi_eq, wi_eq', wi_ne, wi_row, wi_2, N0, N1, N2, N3, N4, N5, N6, N7, N8, N9, N10, N11, N12, N13, N14, N15, N16, N17, N18, N19, N20, N21, N22, N23, N24, N25, N26, N27, N28, N29, N30, N31, N32, N33, N34, N35, N36, N37, N38, N39, N40, N41, N42, N43, N45, N48, N57, N59, N88, N89, N97, N99, N120, N121, N122, N179, N200, N255, N300, N400, N880, N900, N999, N1019, N50000000, N100000000, N1000000000, N2147483647, N2147483648, f_X7_in_15, isb_1]
theorem cIsV {σ : Wd} {m V : Nat} {z : Int} (hz : R z) (hm : σ.2.2 0 4 = m) (hM : bM m = true) (h3 : σ.1 m 3 = I (V : Int)) (hV : V ≤ 5) : f_X6_isVenue (I z) σ = some (I (bn (decide (0 ≤ z ∧ z < (V : Int)))), σ) := by
  unfold R at hz
  by_cases c1 : z < 0
  · rw [decide_eq_false (by omega), bn_f]
    unfold f_X6_isVenue
    simp (disch := omega) only [gd_t, bd_s, nm_W, nm_I, I_add, I_sub, I_mul, I_neg, I_le_t, I_le_f, I_lt_t, I_lt_f, I_eq_t, I_eq_f, I_inb', I_ix', Int.toNat_natCast, decide_true, decide_false, Bool.not_false, Bool.not_true, if_true, if_false, wi_eq, wi_eq', wi_ne, wi_row, wi_2, N0, N1, N2, N3, N4, N5, N6, N7, N8, N9, N10, N11, N12, N13, N14, N15, N16, N17, N18, N19, N20, N21, N22, N23, N24, N25, N26, N27, N28, N29, N30, N31, N32, N33, N34, N35, N36, N37, N38, N39, N40, N41, N42, N43, N45, N48, N57, N59, N88, N89, N97, N99, N120, N121, N122, N179, N200, N255, N300, N400, N880, N900, N999, N1019, N50000000, N100000000, N1000000000, N2147483647, N2147483648, f_X6_isVenue_19, f_X6_isVenue_20, isb_0]
  · by_cases c2 : (V : Int) ≤ z
    · rw [decide_eq_false (by omega), bn_f]
      unfold f_X6_isVenue
      simp (disch := omega) only [gd_t, bd_s, nm_W, nm_I, I_add, I_sub, I_mul, I_neg, I_le_t, I_le_f, I_lt_t, I_lt_f, I_eq_t, I_eq_f, I_inb', I_ix', Int.toNat_natCast, decide_true, decide_false, Bool.not_false, Bool.not_true, if_true, if_false, wi_eq, wi_eq', wi_ne, wi_row, wi_2, N0, N1, N2, N3, N4, N5, N6, N7, N8, N9, N10, N11, N12, N13, N14, N15, N16, N17, N18, N19, N20, N21, N22, N23, N24, N25, N26, N27, N28, N29, N30, N31, N32, N33, N34, N35, N36, N37, N38, N39, N40, N41, N42, N43, N45, N48, N57, N59, N88, N89, N97, N99, N120, N121, N122, N179, N200, N255, N300, N400, N880, N900, N999, N1019, N50000000, N100000000, N1000000000, N2147483647, N2147483648, hm, hM, h3, f_X6_isVenue_19, f_X6_isVenue_20, isb_0]
    · rw [decide_eq_true ⟨by omega, by omega⟩, bn_t]
      unfold f_X6_isVenue
      simp (disch := omega) only [gd_t, bd_s, nm_W, nm_I, I_add, I_sub, I_mul, I_neg, I_le_t, I_le_f, I_lt_t, I_lt_f, I_eq_t, I_eq_f, I_inb', I_ix', Int.toNat_natCast, decide_true, decide_false, Bool.not_false, Bool.not_true, if_true, if_false, wi_eq, wi_eq', wi_ne, wi_row, wi_2, N0, N1, N2, N3, N4, N5, N6, N7, N8, N9, N10, N11, N12, N13, N14, N15, N16, N17, N18, N19, N20, N21, N22, N23, N24, N25, N26, N27, N28, N29, N30, N31, N32, N33, N34, N35, N36, N37, N38, N39, N40, N41, N42, N43, N45, N48, N57, N59, N88, N89, N97, N99, N120, N121, N122, N179, N200, N255, N300, N400, N880, N900, N999, N1019, N50000000, N100000000, N1000000000, N2147483647, N2147483648, hm, hM, h3, f_X6_isVenue_20, isb_1]
theorem rIsV {τ : Wd} {V : Nat} {z x : Int} (hz : R z) (h21 : τ.1 102 21 = I x) (hx : 0 ≤ x ∧ x ≤ 1) (h14 : τ.1 102 14 = I (V : Int)) (hV : V ≤ 5) : f_X7_isVenue (I z) τ = some (I (bn (decide (x = 1 ∧ 0 ≤ z ∧ z < (V : Int)))), τ) := by
  have ei := rIn (σ := τ) (lo := 0) (hi := (V : Int) - 1) hz (by unfold R; omega) (by unfold R; omega)
  by_cases c0 : x = 0
  · rw [decide_eq_false (by omega), bn_f]
    unfold f_X7_isVenue
    simp (disch := omega) only [gd_t, bd_s, nm_W, nm_I, I_add, I_sub, I_mul, I_neg, I_le_t, I_le_f, I_lt_t, I_lt_f, I_eq_t, I_eq_f, I_inb', I_ix', Int.toNat_natCast, decide_true, decide_false, Bool.not_false, Bool.not_true, if_true, if_false, wi_eq, wi_eq', wi_ne, wi_row, wi_2, N0, N1, N2, N3, N4, N5, N6, N7, N8, N9, N10, N11, N12, N13, N14, N15, N16, N17, N18, N19, N20, N21, N22, N23, N24, N25, N26, N27, N28, N29, N30, N31, N32, N33, N34, N35, N36, N37, N38, N39, N40, N41, N42, N43, N45, N48, N57, N59, N88, N89, N97, N99, N120, N121, N122, N179, N200, N255, N300, N400, N880, N900, N999, N1019, N50000000, N100000000, N1000000000, N2147483647, N2147483648, h21, f_X7_isVenue_25, f_X7_isVenue_26, isb_0]
  · by_cases c1 : 0 ≤ z ∧ z ≤ (V : Int) - 1
    · rw [decide_eq_true c1, bn_t] at ei
      rw [decide_eq_true (by omega), bn_t]
      unfold f_X7_isVenue
      simp (disch := omega) only [gd_t, bd_s, nm_W, nm_I, I_add, I_sub, I_mul, I_neg, I_le_t, I_le_f, I_lt_t, I_lt_f, I_eq_t, I_eq_f, I_inb', I_ix', Int.toNat_natCast, decide_true, decide_false, Bool.not_false, Bool.not_true, if_true, if_false, wi_eq, wi_eq', wi_ne, wi_row, wi_2, N0, N1, N2, N3, N4, N5, N6, N7, N8, N9, N10, N11, N12, N13, N14, N15, N16, N17, N18, N19, N20, N21, N22, N23, N24, N25, N26, N27, N28, N29, N30, N31, N32, N33, N34, N35, N36, N37, N38, N39, N40, N41, N42, N43, N45, N48, N57, N59, N88, N89, N97, N99, N120, N121, N122, N179, N200, N255, N300, N400, N880, N900, N999, N1019, N50000000, N100000000, N1000000000, N2147483647, N2147483648, h21, h14, ei, f_X7_isVenue_26, isb_1]
    · rw [decide_eq_false c1, bn_f] at ei
      rw [decide_eq_false (by omega), bn_f]
      unfold f_X7_isVenue
      simp (disch := omega) only [gd_t, bd_s, nm_W, nm_I, I_add, I_sub, I_mul, I_neg, I_le_t, I_le_f, I_lt_t, I_lt_f, I_eq_t, I_eq_f, I_inb', I_ix', Int.toNat_natCast, decide_true, decide_false, Bool.not_false, Bool.not_true, if_true, if_false, wi_eq, wi_eq', wi_ne, wi_row, wi_2, N0, N1, N2, N3, N4, N5, N6, N7, N8, N9, N10, N11, N12, N13, N14, N15, N16, N17, N18, N19, N20, N21, N22, N23, N24, N25, N26, N27, N28, N29, N30, N31, N32, N33, N34, N35, N36, N37, N38, N39, N40, N41, N42, N43, N45, N48, N57, N59, N88, N89, N97, N99, N120, N121, N122, N179, N200, N255, N300, N400, N880, N900, N999, N1019, N50000000, N100000000, N1000000000, N2147483647, N2147483648, h21, h14, ei, f_X7_isVenue_25, f_X7_isVenue_26, isb_0]
