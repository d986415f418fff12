/-! PURE: the text: is it this word; a fault; a number; a name -/
def lw (w : Nat) : List Int := rl (fun i => (tch w (I (i : Int))).toInt) (txL.getD w 0)
theorem tw_ltr {w i : Nat} (hw : w < 13) (hi : i < txL.getD w 0) : 97 ≤ (tch w (I (i : Int))).toInt ∧ (tch w (I (i : Int))).toInt ≤ 122 := by
  have key : ∀ w : Fin 13, ∀ i : Fin 5, i.val < txL.getD w.val 0 → 97 ≤ (tch w.val (I (i.val : Int))).toInt ∧ (tch w.val (I (i.val : Int))).toInt ≤ 122 := by decide +kernel
  have h5 := txL5 w hw
  exact key ⟨w, hw⟩ ⟨i, by omega⟩ hi
theorem lw_ltr {w : Nat} (hw : w < 13) : ltr (lw w) := rl_ltr _ (fun i hi => tw_ltr hw hi)
theorem lw_len {w : Nat} (hw : w < 13) : (lw w).length ≤ 6 := by
  unfold lw
  rw [rl_len]
  have := txL5 w hw
  omega
theorem rW2 {τ : Wd} {w : Nat} (hk : τ.1 102 30 = I 2) {L : Nat} (hL : txL.getD w 0 = L) (L5 : L ≤ 5) : ∀ (r i n : Nat) (z : Int), z = (i : Int) → i + r = L → r < n →
    f_X7_isWord_5 w n (w64 (rl (fun i => (tch w (I (i : Int))).toInt) i)) (I z) τ = some (I (bn (decide (τ.2.1 102 34 = w64 (lw w)))), τ)
  | 0, i, n + 1, z, hz, hi, _ => by
    have eL : nI L = I (L : Int) := (I_nat L).symm
    have el : rl (fun i => (tch w (I (i : Int))).toInt) i = lw w := by
      unfold lw
      rw [hL, show i = L by omega]
    rw [el, f_X7_isWord_5]
    unfold f_X7_isWord_54 f_X7_isWord_55
    rw [hL, eL]
    by_cases c : τ.2.1 102 34 = w64 (lw w)
    · rw [decide_eq_true c, bn_t]
      simp (disch := omega) only [gd_t, bd_s, nm_W, nm_I, I_add, I_sub, I_mul, I_neg, I_le_t, I_le_f, I_lt_t, I_lt_f, I_eq_t, I_eq_f, I_inb', I_ix', Int.toNat_natCast, decide_true, decide_false, Bool.not_false, Bool.not_true, if_true, if_false, wi_eq, wi_eq', wi_ne, wi_row, wi_2, N0, N1, N2, N3, N4, N5, N6, N7, N8, N9, N10, N11, N12, N13, N14, N15, N16, N17, N18, N19, N20, N21, N22, N23, N24, N25, N26, N27, N28, N29, N30, N31, N32, N33, N34, N35, N36, N37, N38, N39, N40, N41, N42, N43, N45, N48, N57, N59, N88, N89, N97, N99, N120, N121, N122, N179, N200, N255, N300, N400, N880, N900, N999, N1019, N50000000, N100000000, N1000000000, N2147483647, N2147483648, hk, lg_0, c, isb_1]
    · rw [decide_eq_false c, bn_f]
      simp (disch := omega) only [gd_t, bd_s, nm_W, nm_I, I_add, I_sub, I_mul, I_neg, I_le_t, I_le_f, I_lt_t, I_lt_f, I_eq_t, I_eq_f, I_inb', I_ix', Int.toNat_natCast, decide_true, decide_false, Bool.not_false, Bool.not_true, if_true, if_false, wi_eq, wi_eq', wi_ne, wi_row, wi_2, N0, N1, N2, N3, N4, N5, N6, N7, N8, N9, N10, N11, N12, N13, N14, N15, N16, N17, N18, N19, N20, N21, N22, N23, N24, N25, N26, N27, N28, N29, N30, N31, N32, N33, N34, N35, N36, N37, N38, N39, N40, N41, N42, N43, N45, N48, N57, N59, N88, N89, N97, N99, N120, N121, N122, N179, N200, N255, N300, N400, N880, N900, N999, N1019, N50000000, N100000000, N1000000000, N2147483647, N2147483648, hk, lg_0, c, isb_0]
  | r + 1, i, n + 1, z, hz, hi, hn => by
    have eL : nI L = I (L : Int) := (I_nat L).symm
    have ih := rW2 (w := w) hk hL L5 r (i + 1) n (z + 1) (by omega) (by omega) (by omega)
    have e8 : ((I 8).toInt64 &&& 63 : Int64) = 8 := by decide
    have ew : w64 (rl (fun i => (tch w (I (i : Int))).toInt) (i + 1)) = (w64 (rl (fun i => (tch w (I (i : Int))).toInt) i) <<< (8 : Int64)) ||| (tch w (I z)).toInt64 := by
      show (w64 (rl (fun i => (tch w (I (i : Int))).toInt) i) <<< (8 : Int64)) ||| (I (tch w (I (i : Int))).toInt).toInt64 = _
      rw [I_of, hz]
    rw [ew] at ih
    rw [f_X7_isWord_5]
    rw [hL, eL]
    simp (disch := omega) only [gd_t, bd_s, nm_W, nm_I, I_add, I_sub, I_mul, I_neg, I_le_t, I_le_f, I_lt_t, I_lt_f, I_eq_t, I_eq_f, I_inb', I_ix', Int.toNat_natCast, decide_true, decide_false, Bool.not_false, Bool.not_true, if_true, if_false, wi_eq, wi_eq', wi_ne, wi_row, wi_2, N0, N1, N2, N3, N4, N5, N6, N7, N8, N9, N10, N11, N12, N13, N14, N15, N16, N17, N18, N19, N20, N21, N22, N23, N24, N25, N26, N27, N28, N29, N30, N31, N32, N33, N34, N35, N36, N37, N38, N39, N40, N41, N42, N43, N45, N48, N57, N59, N88, N89, N97, N99, N120, N121, N122, N179, N200, N255, N300, N400, N880, N900, N999, N1019, N50000000, N100000000, N1000000000, N2147483647, N2147483648, e8, ih]
theorem cW {σ : Wd} {N pl : Nat} {w L : Nat} {bt : Nat → Int} (h2 : ∀ i, i < N → σ.1 2 i = I (bt i) ∧ -128 ≤ bt i ∧ bt i ≤ 127) (hN : N ≤ 900) (c8 : σ.1 1 8 = I (pl : Int)) (hL : txL.getD w 0 = L) (L5 : L ≤ 5) (hp : pl + L ≤ N) : ∀ (r i n : Nat) (z : Int), z = (i : Int) → i + r = L → r < n → (∀ j, j < i → bt (pl + j) = (tch w (I (j : Int))).toInt) →
    f_X5_isWord_28 w n (I z) σ = some (I (bn (decide (rl (fun i => bt (pl + i)) L = lw w))), σ)
  | 0, i, n + 1, z, hz, hi, _, h => by
    have eL : nI L = I (L : Int) := (I_nat L).symm
    have el : rl (fun i => bt (pl + i)) L = lw w := by
      unfold lw
      rw [hL]
      exact rl_ext _ (fun j hj => h j (by omega))
    rw [decide_eq_true el, bn_t, f_X5_isWord_28, hL, eL]
    simp (disch := omega) only [gd_t, bd_s, nm_W, nm_I, I_add, I_sub, I_mul, I_neg, I_le_t, I_le_f, I_lt_t, I_lt_f, I_eq_t, I_eq_f, I_inb', I_ix', Int.toNat_natCast, decide_true, decide_false, Bool.not_false, Bool.not_true, if_true, if_false, wi_eq, wi_eq', wi_ne, wi_row, wi_2, N0, N1, N2, N3, N4, N5, N6, N7, N8, N9, N10, N11, N12, N13, N14, N15, N16, N17, N18, N19, N20, N21, N22, N23, N24, N25, N26, N27, N28, N29, N30, N31, N32, N33, N34, N35, N36, N37, N38, N39, N40, N41, N42, N43, N45, N48, N57, N59, N88, N89, N97, N99, N120, N121, N122, N179, N200, N255, N300, N400, N880, N900, N999, N1019, N50000000, N100000000, N1000000000, N2147483647, N2147483648, isb_1]
  | r + 1, i, n + 1, z, hz, hi, hn, h => by
    have eL : nI L = I (L : Int) := (I_nat L).symm
    obtain ⟨b1, b3, b4⟩ := h2 (pl + i) (by omega)
    have t1 : ((pl : Int) + z).toNat = pl + i := by omega
    have tI : I (tch w (I z)).toInt = tch w (I z) := I_of _
    by_cases c : bt (pl + i) = (tch w (I (i : Int))).toInt
    · have ih := cW h2 hN c8 hL L5 hp r (i + 1) n (z + 1) (by omega) (by omega) (by omega) (fun j hj => by
        by_cases e : j = i
        · rw [e]; exact c
        · exact h j (by omega))
      rw [← hz] at c
      rw [← ih, f_X5_isWord_28, hL, eL]
      clear h2 h ih
      have ec : I (bt (pl + i)) = tch w (I z) := by rw [c, I_of]
      simp (disch := omega) only [gd_t, bd_s, nm_W, nm_I, I_add, I_sub, I_mul, I_neg, I_le_t, I_le_f, I_lt_t, I_lt_f, I_eq_t, I_eq_f, I_inb', I_ix', Int.toNat_natCast, decide_true, decide_false, Bool.not_false, Bool.not_true, if_true, if_false, wi_eq, wi_eq', wi_ne, wi_row, wi_2, N0, N1, N2, N3, N4, N5, N6, N7, N8, N9, N10, N11, N12, N13, N14, N15, N16, N17, N18, N19, N20, N21, N22, N23, N24, N25, N26, N27, N28, N29, N30, N31, N32, N33, N34, N35, N36, N37, N38, N39, N40, N41, N42, N43, N45, N48, N57, N59, N88, N89, N97, N99, N120, N121, N122, N179, N200, N255, N300, N400, N880, N900, N999, N1019, N50000000, N100000000, N1000000000, N2147483647, N2147483648, c8, t1, b1, ec]
    · have el : ¬ rl (fun i => bt (pl + i)) L = lw w := fun q => by
        unfold lw at q
        rw [hL] at q
        exact c (rl_inj _ q i (by omega))
      have ec : ¬ I (bt (pl + i)) = tch w (I z) := fun q => by
        rw [← tI, I_eq (by unfold R; omega) (toInt_R _), hz] at q
        exact c q
      rw [decide_eq_false el, bn_f, f_X5_isWord_28, hL, eL]
      clear h2 h
      simp (disch := omega) only [gd_t, bd_s, nm_W, nm_I, I_add, I_sub, I_mul, I_neg, I_le_t, I_le_f, I_lt_t, I_lt_f, I_eq_t, I_eq_f, I_inb', I_ix', Int.toNat_natCast, decide_true, decide_false, Bool.not_false, Bool.not_true, if_true, if_false, wi_eq, wi_eq', wi_ne, wi_row, wi_2, N0, N1, N2, N3, N4, N5, N6, N7, N8, N9, N10, N11, N12, N13, N14, N15, N16, N17, N18, N19, N20, N21, N22, N23, N24, N25, N26, N27, N28, N29, N30, N31, N32, N33, N34, N35, N36, N37, N38, N39, N40, N41, N42, N43, N45, N48, N57, N59, N88, N89, N97, N99, N120, N121, N122, N179, N200, N255, N300, N400, N880, N900, N999, N1019, N50000000, N100000000, N1000000000, N2147483647, N2147483648, c8, t1, b1, ec, isb_0]
theorem isw_ok {N pl w : Nat} {bt : Nat → Int} {σ τ : Wd} {k n : Int} {l : List Int} (hw : w < 13) (hB : BY σ τ N bt) (hT : TK σ τ N bt pl k l n) : f_X5_isWord w σ = some (I (bn (decide (k = 1 ∧ l = lw w))), σ) ∧ f_X7_isWord w τ = some (I (bn (decide (k = 1 ∧ l = lw w))), τ) := by
  obtain ⟨nx, ⟨n1, n2, n3⟩, ⟨c5, c6, c7, c8, c1⟩, ⟨e28, e31, e33, e29⟩, hc⟩ := hT
  have hN := hB.1
  by_cases k1 : k = 1
  · rcases hc with ⟨q, -⟩ | ⟨-, e30, hl, h6, hlt, c9, e34⟩ | ⟨q, -⟩ | ⟨q, -⟩ | ⟨q, -⟩ | ⟨q, -⟩
    · omega
    · have l5 := txL5 w hw
      have ll : l.length ≤ 6 := by rw [hl, rl_len]; exact h6
      constructor
      · unfold f_X5_isWord f_X5_isWord_24
        have eL : nI (txL.getD w 0) = I ((txL.getD w 0 : Nat) : Int) := (I_nat _).symm
        by_cases c : txL.getD w 0 = nx - pl
        · have q := cW (σ := σ) (w := w) (bt := bt) (fun i hi => ⟨(hB.2 i hi).1, (hB.2 i hi).2.2⟩) hN c8 rfl l5 (by omega) (txL.getD w 0) 0 FU 0 rfl (by omega) (by show _ < 6000; omega) (fun j hj => absurd hj (by omega))
          rw [c7, k1, if_pos (show I 1 = (1 : Int32) from rfl), eL, c6, c8, I_sub, if_pos (by rw [c]; congr 1; omega)]
          rw [hl, ← c]
          rw [show decide ((1 : Int) = 1 ∧ rl (fun i => bt (pl + i)) (txL.getD w 0) = lw w) = decide (rl (fun i => bt (pl + i)) (txL.getD w 0) = lw w) from decide_eq_decide.mpr ⟨fun h => h.2, fun h => ⟨rfl, h⟩⟩]
          exact q
        · have nl : ¬ (k = 1 ∧ l = lw w) := fun q => c (by rw [← rl_len (fun i => (tch w (I (i : Int))).toInt) (txL.getD w 0)]; show (lw w).length = _; rw [← q.2, hl, rl_len])
          rw [decide_eq_false nl, bn_f, c7, k1, if_pos (show I 1 = (1 : Int32) from rfl), eL, c6, c8, I_sub, if_neg (by rw [I_eq (by unfold R; omega) (by unfold R; omega)]; omega)]
          rfl
      · have q := rW2 (τ := τ) (w := w) e30 rfl l5 (txL.getD w 0) 0 FU 0 rfl (by omega) (by show _ < 6000; omega)
        have e : f_X7_isWord w τ = some (I (bn (decide (τ.2.1 102 34 = w64 (lw w)))), τ) := q
        rw [e, e34]
        rw [show decide (w64 l = w64 (lw w)) = decide (k = 1 ∧ l = lw w) from decide_eq_decide.mpr ⟨fun h => ⟨k1, w64_inj hlt (lw_ltr hw) ll (lw_len hw) h⟩, fun h => by rw [h.2]⟩]
    · omega
    · omega
    · omega
    · omega
  · rw [decide_eq_false (fun q => k1 q.1), bn_f]
    have kb : 0 ≤ k ∧ k ≤ 5 := by omega
    constructor
    · unfold f_X5_isWord f_X5_isWord_24
      simp (disch := omega) only [gd_t, bd_s, nm_W, nm_I, I_add, I_sub, I_mul, I_neg, I_le_t, I_le_f, I_lt_t, I_lt_f, I_eq_t, I_eq_f, I_inb', I_ix', Int.toNat_natCast, decide_true, decide_false, Bool.not_false, Bool.not_true, if_true, if_false, wi_eq, wi_eq', wi_ne, wi_row, wi_2, N0, N1, N2, N3, N4, N5, N6, N7, N8, N9, N10, N11, N12, N13, N14, N15, N16, N17, N18, N19, N20, N21, N22, N23, N24, N25, N26, N27, N28, N29, N30, N31, N32, N33, N34, N35, N36, N37, N38, N39, N40, N41, N42, N43, N45, N48, N57, N59, N88, N89, N97, N99, N120, N121, N122, N179, N200, N255, N300, N400, N880, N900, N999, N1019, N50000000, N100000000, N1000000000, N2147483647, N2147483648, c7, isb_0]
    · rcases hc with ⟨q, h⟩ | ⟨q, -⟩ | ⟨q, h, -⟩ | ⟨q, h, -⟩ | ⟨q, h, -⟩ | ⟨q, h⟩
      · exact rWord0 hw h (by omega) (by omega)
      · exact absurd q k1
      · exact rWord0 hw h (by omega) (by omega)
      · exact rWord0 hw h (by omega) (by omega)
      · exact rWord0 hw h (by omega) (by omega)
      · exact rWord0 hw h (by omega) (by omega)
/-! a fault, on both sides -/
def BD (σ τ : Wd) : Prop := ∃ (f : Int) (pl : Nat), σ.1 1 1 = I f ∧ σ.1 1 2 = I (pl : Int) ∧ FT τ f pl
theorem bad_ok {N pl : Nat} {bt : Nat → Int} {σ τ : Wd} {k n c : Int} {l : List Int} (hT : TK σ τ N bt pl k l n) (hc : 1 ≤ c ∧ c ≤ 6) : ∃ (σ' τ' : Wd), f_X5_fails (I c) σ = some (I 0, σ') ∧ f_X7_flaw (I c) τ = some (0, τ') ∧ BD σ' τ' ∧ CG σ σ' ∧ RX τ τ' := by
  obtain ⟨nx, ⟨n1, n2, n3⟩, ⟨c5, c6, c7, c8, c1⟩, ⟨e28, e31, e33, e29⟩, -⟩ := hT
  refine ⟨wi (wi σ 1 1 (I c)) 1 2 (I (pl : Int)), wi (wi τ 102 33 (I c)) 102 30 (I 0), ?_, ?_, ⟨c, pl, by simp (disch := omega) only [wi_eq, wi_eq', wi_ne, wi_row, wi_2], by simp (disch := omega) only [wi_eq, wi_eq', wi_ne, wi_row, wi_2], by simp (disch := omega) only [wi_eq, wi_eq', wi_ne, wi_row, wi_2], hc.1, hc.2, by simp (disch := omega) only [wi_eq, wi_eq', wi_ne, wi_row, wi_2], by simp (disch := omega) only [wi_eq, wi_eq', wi_ne, wi_row, wi_2]; exact e31⟩, CGt CGw CGw, RXt (RXw (by omega)) (RXw (by omega))⟩
  · unfold f_X5_fails
    simp (disch := omega) only [gd_t, bd_s, nm_W, nm_I, I_add, I_sub, I_mul, I_neg, I_le_t, I_le_f, I_lt_t, I_lt_f, I_eq_t, I_eq_f, I_inb', I_ix', Int.toNat_natCast, decide_true, decide_false, Bool.not_false, Bool.not_true, if_true, if_false, wi_eq, wi_eq', wi_ne, wi_row, wi_2, N0, N1, N2, N3, N4, N5, N6, N7, N8, N9, N10, N11, N12, N13, N14, N15, N16, N17, N18, N19, N20, N21, N22, N23, N24, N25, N26, N27, N28, N29, N30, N31, N32, N33, N34, N35, N36, N37, N38, N39, N40, N41, N42, N43, N45, N48, N57, N59, N88, N89, N97, N99, N120, N121, N122, N179, N200, N255, N300, N400, N880, N900, N999, N1019, N50000000, N100000000, N1000000000, N2147483647, N2147483648, c8, isb_0]
  · unfold f_X7_flaw f_X7_flaw_12
    simp (disch := omega) only [gd_t, bd_s, nm_W, nm_I, I_add, I_sub, I_mul, I_neg, I_le_t, I_le_f, I_lt_t, I_lt_f, I_eq_t, I_eq_f, I_inb', I_ix', Int.toNat_natCast, decide_true, decide_false, Bool.not_false, Bool.not_true, if_true, if_false, wi_eq, wi_eq', wi_ne, wi_row, wi_2, N0, N1, N2, N3, N4, N5, N6, N7, N8, N9, N10, N11, N12, N13, N14, N15, N16, N17, N18, N19, N20, N21, N22, N23, N24, N25, N26, N27, N28, N29, N30, N31, N32, N33, N34, N35, N36, N37, N38, N39, N40, N41, N42, N43, N45, N48, N57, N59, N88, N89, N97, N99, N120, N121, N122, N179, N200, N255, N300, N400, N880, N900, N999, N1019, N50000000, N100000000, N1000000000, N2147483647, N2147483648, e33]
theorem TK_k {N pl : Nat} {bt : Nat → Int} {σ τ : Wd} {k n : Int} {l : List Int} (hT : TK σ τ N bt pl k l n) : 0 ≤ k ∧ k ≤ 5 := by
  obtain ⟨nx, -, -, -, hc⟩ := hT
  omega
theorem TK_c {N pl : Nat} {bt : Nat → Int} {σ τ σ' τ' : Wd} {k n : Int} {l : List Int} (hT : TK σ τ N bt pl k l n) (h : ∀ i, i ≠ 10 → σ'.1 1 i = σ.1 1 i) (g : ∀ i, 28 ≤ i → i ≤ 33 → τ'.1 102 i = τ.1 102 i) (g2 : τ'.2.1 102 34 = τ.2.1 102 34) : TK σ' τ' N bt pl k l n := by
  unfold TK at hT ⊢
  rw [h 5 (by decide), h 6 (by decide), h 7 (by decide), h 8 (by decide), h 1 (by decide), h 9 (by decide), g 28 (by decide) (by decide), g 29 (by decide) (by decide), g 30 (by decide) (by decide), g 31 (by decide) (by decide), g 32 (by decide) (by decide), g 33 (by decide) (by decide), g2]
  exact hT
theorem whole_ok {N pl : Nat} {bt : Nat → Int} {σ τ : Wd} {k n lo hi : Int} {l : List Int} (hB : BY σ τ N bt) (hT : TK σ τ N bt pl k l n) (hl : -1000 ≤ lo ∧ lo ≤ 1000) (hh : -1000 ≤ hi ∧ hi ≤ 1000) :
    (∃ (σ' τ' : Wd), f_X5_takesWhole (I lo) (I hi) σ = some (I 0, σ') ∧ f_X7_readWhole (I lo) (I hi) τ = some (I lo, τ') ∧ BD σ' τ' ∧ CG σ σ' ∧ RX τ τ')
    ∨ (∃ (σ' τ' : Wd) (v : Int) (pl' : Nat) (k' : Int) (l' : List Int) (n' : Int), f_X5_takesWhole (I lo) (I hi) σ = some (I 1, σ') ∧ f_X7_readWhole (I lo) (I hi) τ = some (I v, τ') ∧ lo ≤ v ∧ v ≤ hi ∧ σ'.1 1 10 = I v ∧ TK σ' τ' N bt pl' k' l' n' ∧ pl ≤ pl' ∧ CG σ σ' ∧ RX τ τ') := by
  have kb := TK_k hT
  have hT0 := hT
  obtain ⟨nx, ⟨n1, n2, n3⟩, ⟨c5, c6, c7, c8, c1⟩, ⟨e28, e31, e33, e29⟩, hc⟩ := hT
  by_cases k2 : k = 2
  · rcases hc with ⟨q, -⟩ | ⟨q, -⟩ | ⟨-, e30, m1, m2, c9, e32⟩ | ⟨q, -⟩ | ⟨q, -⟩ | ⟨q, -⟩
    · omega
    · omega
    · by_cases c : lo ≤ n ∧ n ≤ hi
      · refine Or.inr ?_
        have hT1 : TK (wi σ 1 10 (I n)) τ N bt pl k l n := TK_c hT0 (fun i hi => wi_ne hi) (fun _ _ _ => rfl) rfl
        obtain ⟨σ', τ', pl', k', l', n', q1, q2, q3, q4, q5, q6⟩ := step_ok (BY_f hB CGw RXr) hT1 (by omega)
        have i1 := rIn1 (σ := τ) (z := n) (lo := lo) (hi := hi) (by unfold R; omega) (by unfold R; omega) (by unfold R; omega) c
        have f33 : τ'.1 102 33 = I 0 := by
          obtain ⟨_, -, -, ⟨-, -, h, -⟩, -⟩ := q3
          exact h
        refine ⟨σ', τ', n, pl', k', l', n', ?_, ?_, c.1, c.2, by rw [q5.2.1, wi_eq], q3, q4.1, CGt CGw (CFG q5), q6⟩
        · unfold f_X5_takesWhole
          simp (disch := omega) only [gd_t, bd_s, nm_W, nm_I, I_add, I_sub, I_mul, I_neg, I_le_t, I_le_f, I_lt_t, I_lt_f, I_eq_t, I_eq_f, I_inb', I_ix', Int.toNat_natCast, decide_true, decide_false, Bool.not_false, Bool.not_true, if_true, if_false, wi_eq, wi_eq', wi_ne, wi_row, wi_2, N0, N1, N2, N3, N4, N5, N6, N7, N8, N9, N10, N11, N12, N13, N14, N15, N16, N17, N18, N19, N20, N21, N22, N23, N24, N25, N26, N27, N28, N29, N30, N31, N32, N33, N34, N35, N36, N37, N38, N39, N40, N41, N42, N43, N45, N48, N57, N59, N88, N89, N97, N99, N120, N121, N122, N179, N200, N255, N300, N400, N880, N900, N999, N1019, N50000000, N100000000, N1000000000, N2147483647, N2147483648, c7, c9, q1, isb_1]
        · unfold f_X7_readWhole f_X7_readWhole_33 f_X7_readWhole_54
          simp (disch := omega) only [gd_t, bd_s, nm_W, nm_I, I_add, I_sub, I_mul, I_neg, I_le_t, I_le_f, I_lt_t, I_lt_f, I_eq_t, I_eq_f, I_inb', I_ix', Int.toNat_natCast, decide_true, decide_false, Bool.not_false, Bool.not_true, if_true, if_false, wi_eq, wi_eq', wi_ne, wi_row, wi_2, N0, N1, N2, N3, N4, N5, N6, N7, N8, N9, N10, N11, N12, N13, N14, N15, N16, N17, N18, N19, N20, N21, N22, N23, N24, N25, N26, N27, N28, N29, N30, N31, N32, N33, N34, N35, N36, N37, N38, N39, N40, N41, N42, N43, N45, N48, N57, N59, N88, N89, N97, N99, N120, N121, N122, N179, N200, N255, N300, N400, N880, N900, N999, N1019, N50000000, N100000000, N1000000000, N2147483647, N2147483648, e30, e32, i1, q2, f33]
      · refine Or.inl ?_
        obtain ⟨σ', τ', q1, q2, q3, q4, q5⟩ := bad_ok (c := 4) hT0 (by omega)
        have i0 := rIn0 (σ := τ) (z := n) (lo := lo) (hi := hi) (by unfold R; omega) (by unfold R; omega) (by unfold R; omega) c
        obtain ⟨f, pf, -, -, hF⟩ := id q3
        have en := ft_next hF
        obtain ⟨f1, f2, f3, f4, f5⟩ := hF
        refine ⟨σ', τ', ?_, ?_, q3, q4, q5⟩
        · unfold f_X5_takesWhole f_X5_takesWhole_30
          by_cases cl : n < lo
          · simp (disch := omega) only [gd_t, bd_s, nm_W, nm_I, I_add, I_sub, I_mul, I_neg, I_le_t, I_le_f, I_lt_t, I_lt_f, I_eq_t, I_eq_f, I_inb', I_ix', Int.toNat_natCast, decide_true, decide_false, Bool.not_false, Bool.not_true, if_true, if_false, wi_eq, wi_eq', wi_ne, wi_row, wi_2, N0, N1, N2, N3, N4, N5, N6, N7, N8, N9, N10, N11, N12, N13, N14, N15, N16, N17, N18, N19, N20, N21, N22, N23, N24, N25, N26, N27, N28, N29, N30, N31, N32, N33, N34, N35, N36, N37, N38, N39, N40, N41, N42, N43, N45, N48, N57, N59, N88, N89, N97, N99, N120, N121, N122, N179, N200, N255, N300, N400, N880, N900, N999, N1019, N50000000, N100000000, N1000000000, N2147483647, N2147483648, c7, c9, q1, isb_0]
          · simp (disch := omega) only [gd_t, bd_s, nm_W, nm_I, I_add, I_sub, I_mul, I_neg, I_le_t, I_le_f, I_lt_t, I_lt_f, I_eq_t, I_eq_f, I_inb', I_ix', Int.toNat_natCast, decide_true, decide_false, Bool.not_false, Bool.not_true, if_true, if_false, wi_eq, wi_eq', wi_ne, wi_row, wi_2, N0, N1, N2, N3, N4, N5, N6, N7, N8, N9, N10, N11, N12, N13, N14, N15, N16, N17, N18, N19, N20, N21, N22, N23, N24, N25, N26, N27, N28, N29, N30, N31, N32, N33, N34, N35, N36, N37, N38, N39, N40, N41, N42, N43, N45, N48, N57, N59, N88, N89, N97, N99, N120, N121, N122, N179, N200, N255, N300, N400, N880, N900, N999, N1019, N50000000, N100000000, N1000000000, N2147483647, N2147483648, c7, c9, q1, isb_0]
        · unfold f_X7_readWhole f_X7_readWhole_33 f_X7_readWhole_54
          simp (disch := omega) only [gd_t, bd_s, nm_W, nm_I, I_add, I_sub, I_mul, I_neg, I_le_t, I_le_f, I_lt_t, I_lt_f, I_eq_t, I_eq_f, I_inb', I_ix', Int.toNat_natCast, decide_true, decide_false, Bool.not_false, Bool.not_true, if_true, if_false, wi_eq, wi_eq', wi_ne, wi_row, wi_2, N0, N1, N2, N3, N4, N5, N6, N7, N8, N9, N10, N11, N12, N13, N14, N15, N16, N17, N18, N19, N20, N21, N22, N23, N24, N25, N26, N27, N28, N29, N30, N31, N32, N33, N34, N35, N36, N37, N38, N39, N40, N41, N42, N43, N45, N48, N57, N59, N88, N89, N97, N99, N120, N121, N122, N179, N200, N255, N300, N400, N880, N900, N999, N1019, N50000000, N100000000, N1000000000, N2147483647, N2147483648, e30, e32, i0, q2, en, f1]
    · omega
    · omega
    · omega
  · refine Or.inl ?_
    obtain ⟨σ', τ', q1, q2, q3, q4, q5⟩ := bad_ok (c := 1) hT0 (by omega)
    obtain ⟨f, pf, -, -, hF⟩ := id q3
    have en := ft_next hF
    obtain ⟨f1, f2, f3, f4, f5⟩ := hF
    obtain ⟨kd, e30, k3⟩ : ∃ kd, τ.1 102 30 = I kd ∧ 0 ≤ kd ∧ kd ≤ 4 ∧ kd ≠ 3 := by
      rcases hc with ⟨q, h⟩ | ⟨q, h, -⟩ | ⟨q, -⟩ | ⟨q, h, -⟩ | ⟨q, h, -⟩ | ⟨q, h⟩
      · exact ⟨1, h, by omega⟩
      · exact ⟨2, h, by omega⟩
      · exact absurd q k2
      · exact ⟨4, h, by omega⟩
      · exact ⟨4, h, by omega⟩
      · exact ⟨0, h, by omega⟩
    refine ⟨σ', τ', ?_, ?_, q3, q4, q5⟩
    · unfold f_X5_takesWhole
      simp (disch := omega) only [gd_t, bd_s, nm_W, nm_I, I_add, I_sub, I_mul, I_neg, I_le_t, I_le_f, I_lt_t, I_lt_f, I_eq_t, I_eq_f, I_inb', I_ix', Int.toNat_natCast, decide_true, decide_false, Bool.not_false, Bool.not_true, if_true, if_false, wi_eq, wi_eq', wi_ne, wi_row, wi_2, N0, N1, N2, N3, N4, N5, N6, N7, N8, N9, N10, N11, N12, N13, N14, N15, N16, N17, N18, N19, N20, N21, N22, N23, N24, N25, N26, N27, N28, N29, N30, N31, N32, N33, N34, N35, N36, N37, N38, N39, N40, N41, N42, N43, N45, N48, N57, N59, N88, N89, N97, N99, N120, N121, N122, N179, N200, N255, N300, N400, N880, N900, N999, N1019, N50000000, N100000000, N1000000000, N2147483647, N2147483648, c7, q1, isb_0]
    · unfold f_X7_readWhole f_X7_readWhole_33 f_X7_readWhole_54
      simp (disch := omega) only [gd_t, bd_s, nm_W, nm_I, I_add, I_sub, I_mul, I_neg, I_le_t, I_le_f, I_lt_t, I_lt_f, I_eq_t, I_eq_f, I_inb', I_ix', Int.toNat_natCast, decide_true, decide_false, Bool.not_false, Bool.not_true, if_true, if_false, wi_eq, wi_eq', wi_ne, wi_row, wi_2, N0, N1, N2, N3, N4, N5, N6, N7, N8, N9, N10, N11, N12, N13, N14, N15, N16, N17, N18, N19, N20, N21, N22, N23, N24, N25, N26, N27, N28, N29, N30, N31, N32, N33, N34, N35, N36, N37, N38, N39, N40, N41, N42, N43, N45, N48, N57, N59, N88, N89, N97, N99, N120, N121, N122, N179, N200, N255, N300, N400, N880, N900, N999, N1019, N50000000, N100000000, N1000000000, N2147483647, N2147483648, e30, q2, en, f1]
theorem TK_1 {N pl : Nat} {bt : Nat → Int} {σ τ : Wd} {k n : Int} {l : List Int} (hT : TK σ τ N bt pl k l n) (hk : k = 1) : ltr l ∧ l.length ≤ 6 ∧ σ.1 1 9 = I (w27 l) ∧ τ.2.1 102 34 = w64 l := by
  obtain ⟨nx, -, -, -, hc⟩ := hT
  rcases hc with ⟨q, -⟩ | ⟨-, e30, hl, h6, hlt, c9, e34⟩ | ⟨q, -⟩ | ⟨q, -⟩ | ⟨q, -⟩ | ⟨q, -⟩
  · omega
  · exact ⟨hlt, by rw [hl, rl_len]; exact h6, c9, e34⟩
  · omega
  · omega
  · omega
  · omega
theorem TK_33 {N pl : Nat} {bt : Nat → Int} {σ τ : Wd} {k n : Int} {l : List Int} (hT : TK σ τ N bt pl k l n) : τ.1 102 33 = I 0 ∧ σ.1 1 7 = I k := by
  obtain ⟨nx, -, ⟨-, -, h7, -⟩, ⟨-, -, h, -⟩, -⟩ := hT
  exact ⟨h, h7⟩
