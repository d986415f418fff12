/-! PURE: the text: what is read so far; the order's line -/
def PV (m : Nat) (σ τ : Wd) (d : MD) (dl : Nat → Int) (v : Nat) : Prop :=
  (σ.1 (m + 1) v = I (d.kd v) ∧ τ.1 106 (5 * v) = I (d.kd v)) ∧ (σ.1 (m + 2) v = I (d.lo v) ∧ τ.1 106 (5 * v + 1) = I (d.lo v)) ∧ (σ.1 (m + 3) v = I (d.fe v) ∧ τ.1 110 v = I (d.fe v)) ∧ (σ.1 (m + 4) v = I (d.le v) ∧ τ.1 106 (5 * v + 2) = I (d.le v)) ∧ (σ.1 (m + 5) v = I (dl v) ∧ τ.1 106 (5 * v + 3) = I (dl v) ∧ 1 ≤ dl v ∧ dl v ≤ 9) ∧ (σ.1 (m + 6) v = I (d.lv v : Int) ∧ τ.1 106 (5 * v + 4) = I (d.lv v : Int))
  ∧ ∀ k, k < d.lv v → (σ.1 (m + 8) (6 * v + k) = I (d.pr (6 * v + k)) ∧ τ.1 107 (6 * v + k) = I (d.pr (6 * v + k))) ∧ (σ.1 (m + 9) (6 * v + k) = I (d.sz (6 * v + k)) ∧ τ.1 109 (6 * v + k) = I (d.sz (6 * v + k)))
def PE (m : Nat) (σ τ : Wd) (V E : Nat) (lv : Nat → Nat) (et : Nat → Int) : Prop :=
  E ≤ 10 ∧ σ.1 m 4 = I (E : Int) ∧ τ.1 102 20 = I (E : Int) ∧ (∀ i, i < E → ∃ (a k : Nat) (z : Int), a < V ∧ k < lv a ∧ 0 ≤ z ∧ z ≤ 99 ∧ 1 ≤ et i ∧ et i ≤ 200 ∧ σ.1 (m + 10) i = I (et i) ∧ τ.1 108 (4 * i) = I (et i) ∧ σ.1 (m + 11) i = I ((6 * a + k : Nat) : Int) ∧ τ.1 108 (4 * i + 1) = I (a : Int) ∧ τ.1 108 (4 * i + 2) = I (k : Int) ∧ σ.1 (m + 12) i = I z ∧ τ.1 108 (4 * i + 3) = I z)
  ∧ (∀ i, i + 1 < E → et i ≤ et (i + 1))
def PRD (m : Nat) (σ τ : Wd) (W p L : Int) (V E : Nat) (d : MD) (dl et : Nat → Int) : Prop :=
  (σ.1 m 0 = I W ∧ τ.1 102 16 = I W ∧ 0 ≤ W ∧ W ≤ 120 ∧ (W = 0 → V = 0 ∧ E = 0)) ∧ (W ≠ 0 → (σ.1 m 1 = I p ∧ τ.1 102 17 = I p ∧ 1 ≤ p ∧ p ≤ 999) ∧ (σ.1 m 2 = I L ∧ τ.1 102 18 = I L ∧ 1 ≤ L ∧ L ≤ 20)) ∧ (MDok d V ∧ σ.1 m 3 = I (V : Int) ∧ τ.1 102 19 = I (V : Int)) ∧ (∃ nm, NMS σ τ V nm) ∧ (∀ v, v < V → PV m σ τ d dl v)
  ∧ ((∀ v, V ≤ v → v < 5 → σ.1 (m + 6) v = I 0) ∧ (∀ v, v < 5 → σ.1 (m + 7) v = I 0)) ∧ PE m σ τ V E d.lv et
/-- what a line leaves alone -/
def LC (m : Nat) (σ σ' : Wd) : Prop := (∀ k, k ≠ 1 → k ≠ 3 → k < m ∨ m + 12 < k → σ'.1 k = σ.1 k) ∧ σ'.2 = σ.2
def LF (τ τ' : Wd) : Prop := (∀ k, k ≠ 102 → k < 106 ∨ 110 < k → τ'.1 k = τ.1 k) ∧ (∀ i, i < 16 ∨ 20 < i → i < 29 ∨ 33 < i → τ'.1 102 i = τ.1 102 i) ∧ τ'.2.2 = τ.2.2
theorem LCr {m : Nat} {σ : Wd} : LC m σ σ := ⟨fun _ _ _ _ => rfl, rfl⟩
theorem LFr {τ : Wd} : LF τ τ := ⟨fun _ _ _ => rfl, fun _ _ _ => rfl, rfl⟩
theorem LCt {m : Nat} {a b c : Wd} (h : LC m a b) (g : LC m b c) : LC m a c := ⟨fun k h1 h2 h3 => by rw [g.1 k h1 h2 h3, h.1 k h1 h2 h3], by rw [g.2, h.2]⟩
theorem LFt {a b c : Wd} (h : LF a b) (g : LF b c) : LF a c := ⟨fun k h1 h2 => by rw [g.1 k h1 h2, h.1 k h1 h2], fun i h1 h2 => by rw [g.2.1 i h1 h2, h.2.1 i h1 h2], by rw [g.2.2, h.2.2]⟩
theorem CGL {m : Nat} {σ σ' : Wd} (h : CG σ σ') : LC m σ σ' := ⟨fun k h1 _ _ => h.1 k h1, h.2⟩
theorem RXL {τ τ' : Wd} (h : RX τ τ') : LF τ τ' := ⟨fun k h1 _ => h.1 k h1, fun i _ h2 => h.2.1 i h2, h.2.2.2⟩
theorem LCw {m j i : Nat} {σ : Wd} {x : Int32} (h : m ≤ j ∧ j ≤ m + 12) : LC m σ (wi σ j i x) := ⟨fun k _ _ h3 => wi_row (by omega), rfl⟩
theorem LFw {j i : Nat} {τ : Wd} {x : Int32} (h : 106 ≤ j ∧ j ≤ 110) : LF τ (wi τ j i x) := ⟨fun k _ h2 => wi_row (by omega), fun k _ _ => by rw [wi_row (by omega)], rfl⟩
theorem LFv {i : Nat} {τ : Wd} {x : Int32} (h : 16 ≤ i ∧ i ≤ 20) : LF τ (wi τ 102 i x) := ⟨fun k h1 _ => wi_row h1, fun k _ _ => wi_ne (by omega), rfl⟩
theorem LFl {j i : Nat} {τ : Wd} {x : Int64} : LF τ (wl τ j i x) := ⟨fun k h1 _ => rfl, fun k _ _ => rfl, rfl⟩
theorem PV_f {m v : Nat} {σ τ σ' τ' : Wd} {d : MD} {dl : Nat → Int} (h : PV m σ τ d dl v) (c : ∀ k, m + 1 ≤ k → k ≤ m + 9 → σ'.1 k = σ.1 k) (e : ∀ k, 106 ≤ k → k ≤ 110 → k ≠ 108 → τ'.1 k = τ.1 k) : PV m σ' τ' d dl v := by
  unfold PV at h ⊢
  rw [c (m + 1) (by omega) (by omega), c (m + 2) (by omega) (by omega), c (m + 3) (by omega) (by omega), c (m + 4) (by omega) (by omega), c (m + 5) (by omega) (by omega), c (m + 6) (by omega) (by omega), c (m + 8) (by omega) (by omega), c (m + 9) (by omega) (by omega), e 106 (by omega) (by omega) (by omega), e 107 (by omega) (by omega) (by omega), e 109 (by omega) (by omega) (by omega), e 110 (by omega) (by omega) (by omega)]
  exact h
theorem PE_f {m V E : Nat} {σ τ σ' τ' : Wd} {lv : Nat → Nat} {et : Nat → Int} (h : PE m σ τ V E lv et) (c4 : σ'.1 m 4 = σ.1 m 4) (c : ∀ k, m + 10 ≤ k → k ≤ m + 12 → σ'.1 k = σ.1 k) (e20 : τ'.1 102 20 = τ.1 102 20) (e : τ'.1 108 = τ.1 108) : PE m σ' τ' V E lv et := by
  unfold PE at h ⊢
  rw [c4, c (m + 10) (by omega) (by omega), c (m + 11) (by omega) (by omega), c (m + 12) (by omega) (by omega), e20, e]
  exact h
theorem NMS_f {σ τ σ' τ' : Wd} {V : Nat} {nm : Nat → List Int} (h : NMS σ τ V nm) (c : σ'.1 3 = σ.1 3) (e : τ'.2.1 111 = τ.2.1 111) : NMS σ' τ' V nm := by
  unfold NMS at h ⊢
  rw [c, e]
  exact h
theorem PRD_f {m V E : Nat} {σ τ σ' τ' : Wd} {W p L : Int} {d : MD} {dl et : Nat → Int} (hm : 10 < m) (h : PRD m σ τ W p L V E d dl et) (c : CG σ σ') (e : RX τ τ') : PRD m σ' τ' W p L V E d dl et := by
  obtain ⟨h1, h2, h3, ⟨nm, h4⟩, h5, h6, h7⟩ := h
  refine ⟨?_, ?_, ?_, ⟨nm, NMS_f h4 (c.1 3 (by decide)) (e.2.2.1 111 (by decide))⟩, fun v hv => PV_f (h5 v hv) (fun k _ _ => c.1 k (by omega)) (fun k _ _ _ => e.1 k (by omega)), ?_, PE_f h7 (by rw [c.1 m (by omega)]) (fun k _ _ => c.1 k (by omega)) (e.2.1 20 (by decide)) (e.1 108 (by decide))⟩
  · rw [c.1 m (by omega), e.2.1 16 (by decide)]; exact h1
  · rw [c.1 m (by omega), e.2.1 17 (by decide), e.2.1 18 (by decide)]; exact h2
  · rw [c.1 m (by omega), e.2.1 19 (by decide)]; exact h3
  · rw [c.1 (m + 6) (by omega), c.1 (m + 7) (by omega)]; exact h6
theorem BYw {m j i N : Nat} {σ τ : Wd} {x : Int32} {bt : Nat → Int} (h : BY σ τ N bt) (hj : j ≠ 2) : BY (wi σ j i x) τ N bt := by
  unfold BY at h ⊢
  rw [wi_row (Ne.symm hj)]
  exact h
theorem TKw {N pl j i : Nat} {bt : Nat → Int} {σ τ : Wd} {k n : Int} {l : List Int} {x : Int32} (hT : TK σ τ N bt pl k l n) (hj : j ≠ 1) : TK (wi σ j i x) τ N bt pl k l n := TK_c hT (fun i _ => by rw [wi_row (Ne.symm hj)]) (fun _ _ _ => rfl) rfl
/-! the order's line -/
def oR3 (m : Nat) (σ14 : Wd) : Option (Int32 × Wd) := nmW (wi σ14 m 2 (σ14.1 1 10)) fun σ15 => gd (isb (1 : Int32)) (some ((1 : Int32), σ15))
def oR2 (m : Nat) (σ9 : Wd) : Option (Int32 × Wd) := nmW (wi σ9 m 1 (σ9.1 1 10)) fun σ10 => bd (f_X5_takesWord 5 σ10) fun r11 σ12 => if r11 = 0 then (f_X5_readOrder_91 m σ12) else (bd (f_X5_takesWhole (I 1) (I 20) σ12) fun r13 σ14 => if r13 = 0 then (f_X5_readOrder_91 m σ14) else oR3 m σ14)
def oR1 (m : Nat) (σ4 : Wd) : Option (Int32 × Wd) := nmW (wi σ4 m 0 (σ4.1 1 10)) fun σ5 => bd (f_X5_takesWord 4 σ5) fun r6 σ7 => if r6 = 0 then (f_X5_readOrder_62 m σ7) else (bd (f_X5_takesWhole (I 1) (I 999) σ7) fun r8 σ9 => if r8 = 0 then (f_X5_readOrder_62 m σ9) else oR2 m σ9)
theorem oR_eq {m : Nat} {σ : Wd} : f_X5_readOrder m σ = if (σ.1 m 0) = 0 then (bd (f_X5_takesWord 0 σ) fun r1 σ2 => if r1 = 0 then (f_X5_readOrder_32 m σ2) else (bd (f_X5_takesWhole (I 1) (I 120) σ2) fun r3 σ4 => if r3 = 0 then (f_X5_readOrder_32 m σ4) else oR1 m σ4)) else (bd (f_X5_fails (I 3) σ) fun r16 σ17 => gd (isb r16) (some (r16, σ17))) := rfl
theorem ft_order {τ : Wd} {f : Int} {pl : Nat} (h : FT τ f pl) : f_X7_readOrderLine_12 τ = some (0, τ) := by
  have e2 := ft_next h
  have e3 := ft_whole (lo := I 1) (hi := I 120) h
  have e4 := ft_part (w := 4) (lo := I 1) (hi := I 999) (by decide) h
  have e5 := ft_part (w := 5) (lo := I 1) (hi := I 20) (by decide) h
  obtain ⟨h1, h2, h3, h4, h5⟩ := h
  unfold f_X7_readOrderLine_12
  simp (disch := omega) only [gd_t, bd_s, nm_W, nm_I, I_add, I_sub, I_mul, I_neg, I_le_t, I_le_f, I_lt_t, I_lt_f, I_eq_t, I_eq_f, I_inb', I_ix', Int.toNat_natCast, decide_true, decide_false, Bool.not_false, Bool.not_true, if_true, if_false, wi_eq, wi_eq', wi_ne, wi_row, wi_2, N0, N1, N2, N3, N4, N5, N6, N7, N8, N9, N10, N11, N12, N13, N14, N15, N16, N17, N18, N19, N20, N21, N22, N23, N24, N25, N26, N27, N28, N29, N30, N31, N32, N33, N34, N35, N36, N37, N38, N39, N40, N41, N42, N43, N45, N48, N57, N59, N88, N89, N97, N99, N120, N121, N122, N179, N200, N255, N300, N400, N880, N900, N999, N1019, N50000000, N100000000, N1000000000, N2147483647, N2147483648, e2, e3, e4, e5, h1]
theorem order_ok {m N pl V E : Nat} {bt : Nat → Int} {σ τ : Wd} {k n W p L : Int} {l : List Int} {d : MD} {dl et : Nat → Int} (hm : 10 < m) (hB : BY σ τ N bt) (hT : TK σ τ N bt pl k l n) (hk : k = 1 ∧ l = lw 0) (hP : PRD m σ τ W p L V E d dl et) :
    (∃ (σ' τ' : Wd), f_X5_readOrder m σ = some (I 0, σ') ∧ f_X7_readOrderLine τ = some (0, τ') ∧ BD σ' τ' ∧ LC m σ σ' ∧ LF τ τ')
    ∨ (∃ (σ' τ' : Wd) (pl' : Nat) (k' : Int) (l' : List Int) (n' W' p' L' : Int), f_X5_readOrder m σ = some (I 1, σ') ∧ f_X7_readOrderLine τ = some (0, τ') ∧ PRD m σ' τ' W' p' L' V E d dl et ∧ TK σ' τ' N bt pl' k' l' n' ∧ pl ≤ pl' ∧ LC m σ σ' ∧ LF τ τ') := by
  have hP0 := hP
  obtain ⟨⟨h0, h16, hW0, hW1, hW2⟩, -⟩ := hP
  rw [oR_eq]
  by_cases cW : W = 0
  · have eref : f_X7_readOrderLine τ = f_X7_readOrderLine_12 τ := by
      unfold f_X7_readOrderLine
      simp (disch := omega) only [gd_t, bd_s, nm_W, nm_I, I_add, I_sub, I_mul, I_neg, I_le_t, I_le_f, I_lt_t, I_lt_f, I_eq_t, I_eq_f, I_inb', I_ix', Int.toNat_natCast, decide_true, decide_false, Bool.not_false, Bool.not_true, if_true, if_false, wi_eq, wi_eq', wi_ne, wi_row, wi_2, N0, N1, N2, N3, N4, N5, N6, N7, N8, N9, N10, N11, N12, N13, N14, N15, N16, N17, N18, N19, N20, N21, N22, N23, N24, N25, N26, N27, N28, N29, N30, N31, N32, N33, N34, N35, N36, N37, N38, N39, N40, N41, N42, N43, N45, N48, N57, N59, N88, N89, N97, N99, N120, N121, N122, N179, N200, N255, N300, N400, N880, N900, N999, N1019, N50000000, N100000000, N1000000000, N2147483647, N2147483648, h16]
    rw [if_pos (show σ.1 m 0 = (0 : Int32) by rw [h0, cW]; rfl), eref]
    rcases word1_ok (w := 0) (by decide) hB hT with ⟨σ1, τ1, q1, q2, q3, -⟩ | ⟨σ1, τ1, pl1, k1, l1, n1, q1, q2, q3, q4, q5, q6⟩
    · exfalso
      obtain ⟨a0, b0⟩ := isw_ok (w := 0) (by decide) hB hT
      rw [decide_eq_true hk, bn_t] at a0
      unfold f_X5_takesWord at q1
      obtain ⟨σ2, -, -, -, -, -, r1, -⟩ := step_ok hB hT (by omega)
      rw [a0, bd_s, if_neg (show ¬ I 1 = (0 : Int32) by decide), r1, bd_s] at q1
      have q1 : some ((1 : Int32), σ2) = some (I 0, σ1) := q1
      obtain ⟨e, -⟩ := Prod.mk.inj (Option.some.inj q1)
      exact absurd e (by decide)
    · obtain ⟨a0, b0⟩ := isw_ok (w := 0) (by decide) hB hT
      rw [decide_eq_true hk, bn_t] at b0
      rw [b0, bd_s, if_neg (show ¬ I 1 = (0 : Int32) by decide)] at q2
      rw [q1, bd_s, if_neg (show ¬ I 1 = (0 : Int32) by decide)]
      have hB1 := BY_f hB q5 q6
      rcases num1_ok (lo := 1) (hi := 120) (K0 := f_X5_readOrder_32 m) (K1 := oR1 m) (fun _ => rfl) hB1 q3 (by omega) (by omega) with ⟨σ2, τ2, r1, r2, r3, r4, r5⟩ | ⟨σ2, τ2, v2, pl2, k2, l2, n2, r1, r2, r3, r3', r4, r5, r6, r7, r8⟩
      · obtain ⟨f, pf, -, -, hF⟩ := id r3
        have e4 := ft_part (w := 4) (lo := I 1) (hi := I 999) (by decide) hF
        have e5 := ft_part (w := 5) (lo := I 1) (hi := I 20) (by decide) hF
        obtain ⟨f1, f2, f3, f4, f5⟩ := hF
        refine Or.inl ⟨σ2, τ2, r1, ?_, r3, LCt (CGL q5) (CGL r4), LFt (RXL q6) (RXL r5)⟩
        unfold f_X7_readOrderLine_12
        simp (disch := omega) only [gd_t, bd_s, nm_W, nm_I, I_add, I_sub, I_mul, I_neg, I_le_t, I_le_f, I_lt_t, I_lt_f, I_eq_t, I_eq_f, I_inb', I_ix', Int.toNat_natCast, decide_true, decide_false, Bool.not_false, Bool.not_true, if_true, if_false, wi_eq, wi_eq', wi_ne, wi_row, wi_2, N0, N1, N2, N3, N4, N5, N6, N7, N8, N9, N10, N11, N12, N13, N14, N15, N16, N17, N18, N19, N20, N21, N22, N23, N24, N25, N26, N27, N28, N29, N30, N31, N32, N33, N34, N35, N36, N37, N38, N39, N40, N41, N42, N43, N45, N48, N57, N59, N88, N89, N97, N99, N120, N121, N122, N179, N200, N255, N300, N400, N880, N900, N999, N1019, N50000000, N100000000, N1000000000, N2147483647, N2147483648, q2, r2, e4, e5, f1]
      · have hB2 := BYw (m := m) (j := m) (i := 0) (x := I v2) (BY_f hB1 r7 r8) (by omega)
        rw [r1]
        unfold oR1
        rw [nm_W, r4]
        rcases part_ok (w := 4) (lo := 1) (hi := 999) (K0 := f_X5_readOrder_62 m) (K1 := oR2 m) (fun _ => rfl) (by decide) hB2 (TKw (j := m) (i := 0) (x := I v2) r5 (by omega)) (by omega) (by omega) with ⟨σ3, τ3, s1, s2, s3, s4, s5⟩ | ⟨σ3, τ3, v3, pl3, k3, l3, n3, s1, s2, s3, s3', s4, s5, s6, s7, s8⟩
        · obtain ⟨f, pf, -, -, hF⟩ := id s3
          have e5 := ft_part (w := 5) (lo := I 1) (hi := I 20) (by decide) hF
          obtain ⟨f1, f2, f3, f4, f5⟩ := hF
          refine Or.inl ⟨σ3, τ3, s1, ?_, s3, LCt (CGL q5) (LCt (CGL r7) (LCt (LCw (by omega)) (CGL s4))), LFt (RXL q6) (LFt (RXL r8) (RXL s5))⟩
          unfold f_X7_readOrderLine_12
          simp (disch := omega) only [gd_t, bd_s, nm_W, nm_I, I_add, I_sub, I_mul, I_neg, I_le_t, I_le_f, I_lt_t, I_lt_f, I_eq_t, I_eq_f, I_inb', I_ix', Int.toNat_natCast, decide_true, decide_false, Bool.not_false, Bool.not_true, if_true, if_false, wi_eq, wi_eq', wi_ne, wi_row, wi_2, N0, N1, N2, N3, N4, N5, N6, N7, N8, N9, N10, N11, N12, N13, N14, N15, N16, N17, N18, N19, N20, N21, N22, N23, N24, N25, N26, N27, N28, N29, N30, N31, N32, N33, N34, N35, N36, N37, N38, N39, N40, N41, N42, N43, N45, N48, N57, N59, N88, N89, N97, N99, N120, N121, N122, N179, N200, N255, N300, N400, N880, N900, N999, N1019, N50000000, N100000000, N1000000000, N2147483647, N2147483648, q2, r2, s2, e5, f1]
        · have hB3 := BYw (m := m) (j := m) (i := 1) (x := I v3) (BY_f hB2 s7 s8) (by omega)
          rw [s1]
          unfold oR2
          rw [nm_W, s4]
          rcases part_ok (w := 5) (lo := 1) (hi := 20) (K0 := f_X5_readOrder_91 m) (K1 := oR3 m) (fun _ => rfl) (by decide) hB3 (TKw (j := m) (i := 1) (x := I v3) s5 (by omega)) (by omega) (by omega) with ⟨σ4, τ4, t1, t2, t3, t4, t5⟩ | ⟨σ4, τ4, v4, pl4, k4, l4, n4, t1, t2, t3, t3', t4, t5, t6, t7, t8⟩
          · obtain ⟨f, pf, -, -, hF⟩ := id t3
            obtain ⟨f1, f2, f3, f4, f5⟩ := hF
            refine Or.inl ⟨σ4, τ4, t1, ?_, t3, LCt (CGL q5) (LCt (CGL r7) (LCt (LCw (by omega)) (LCt (CGL s7) (LCt (LCw (by omega)) (CGL t4))))), LFt (RXL q6) (LFt (RXL r8) (LFt (RXL s8) (RXL t5)))⟩
            unfold f_X7_readOrderLine_12
            simp (disch := omega) only [gd_t, bd_s, nm_W, nm_I, I_add, I_sub, I_mul, I_neg, I_le_t, I_le_f, I_lt_t, I_lt_f, I_eq_t, I_eq_f, I_inb', I_ix', Int.toNat_natCast, decide_true, decide_false, Bool.not_false, Bool.not_true, if_true, if_false, wi_eq, wi_eq', wi_ne, wi_row, wi_2, N0, N1, N2, N3, N4, N5, N6, N7, N8, N9, N10, N11, N12, N13, N14, N15, N16, N17, N18, N19, N20, N21, N22, N23, N24, N25, N26, N27, N28, N29, N30, N31, N32, N33, N34, N35, N36, N37, N38, N39, N40, N41, N42, N43, N45, N48, N57, N59, N88, N89, N97, N99, N120, N121, N122, N179, N200, N255, N300, N400, N880, N900, N999, N1019, N50000000, N100000000, N1000000000, N2147483647, N2147483648, q2, r2, s2, t2, f1]
          · have g33 := (TK_33 t5).1
            have key : LC m σ (wi σ4 m 2 (I v4)) := LCt (CGL q5) (LCt (CGL r7) (LCt (LCw (by omega)) (LCt (CGL s7) (LCt (LCw (by omega)) (LCt (CGL t7) (LCw (by omega)))))))
            have keyR : RX τ τ4 := RXt q6 (RXt r8 (RXt s8 t8))
            rw [t1]
            unfold oR3
            rw [nm_W, t4]
            refine Or.inr ⟨wi σ4 m 2 (I v4), wi (wi (wi τ4 102 16 (I v2)) 102 17 (I v3)) 102 18 (I v4), pl4, k4, l4, n4, v2, v3, v4, rfl, ?_, ?_, TK_c t5 (fun i _ => by rw [wi_row (by omega)]) (fun i i1 i2 => by rw [wi_ne (by omega), wi_ne (by omega), wi_ne (by omega)]) rfl, by omega, key, LFt (RXL keyR) (LFt (LFv (by omega)) (LFt (LFv (by omega)) (LFv (by omega))))⟩
            · unfold f_X7_readOrderLine_12
              simp (disch := omega) only [gd_t, bd_s, nm_W, nm_I, I_add, I_sub, I_mul, I_neg, I_le_t, I_le_f, I_lt_t, I_lt_f, I_eq_t, I_eq_f, I_inb', I_ix', Int.toNat_natCast, decide_true, decide_false, Bool.not_false, Bool.not_true, if_true, if_false, wi_eq, wi_eq', wi_ne, wi_row, wi_2, N0, N1, N2, N3, N4, N5, N6, N7, N8, N9, N10, N11, N12, N13, N14, N15, N16, N17, N18, N19, N20, N21, N22, N23, N24, N25, N26, N27, N28, N29, N30, N31, N32, N33, N34, N35, N36, N37, N38, N39, N40, N41, N42, N43, N45, N48, N57, N59, N88, N89, N97, N99, N120, N121, N122, N179, N200, N255, N300, N400, N880, N900, N999, N1019, N50000000, N100000000, N1000000000, N2147483647, N2147483648, q2, r2, s2, t2, g33]
            · obtain ⟨V0, E0⟩ := hW2 cW
              subst V0 E0
              obtain ⟨-, -, ⟨p1, p2, p3⟩, ⟨nm, p4⟩, p5, ⟨p6, p7⟩, p8⟩ := hP0
              have cr : ∀ k, k ≠ 1 → k ≠ m → (wi σ4 m 2 (I v4)).1 k = σ.1 k := fun k h1 h2 => by rw [wi_row h2, t7.1 k h1, wi_row h2, s7.1 k h1, wi_row h2, r7.1 k h1, q5.1 k h1]
              have cm : ∀ i, i ≠ 0 → i ≠ 1 → i ≠ 2 → (wi σ4 m 2 (I v4)).1 m i = σ.1 m i := fun i h1 h2 h3 => by rw [wi_ne h3, t7.1 m (by omega), wi_ne h2, s7.1 m (by omega), wi_ne h1, r7.1 m (by omega), q5.1 m (by omega)]
              have rr : ∀ k, k ≠ 102 → (wi (wi (wi τ4 102 16 (I v2)) 102 17 (I v3)) 102 18 (I v4)).1 k = τ.1 k := fun k h1 => by rw [wi_row h1, wi_row h1, wi_row h1, keyR.1 k h1]
              have rv : ∀ i, i < 29 → i ≠ 16 → i ≠ 17 → i ≠ 18 → (wi (wi (wi τ4 102 16 (I v2)) 102 17 (I v3)) 102 18 (I v4)).1 102 i = τ.1 102 i := fun i h0 h1 h2 h3 => by rw [wi_ne h3, wi_ne h2, wi_ne h1, keyR.2.1 i (by omega)]
              refine ⟨⟨?_, ?_, by omega, by omega, fun q => by omega⟩, fun _ => ⟨⟨?_, ?_, by omega, by omega⟩, ⟨wi_eq, wi_eq, by omega, by omega⟩⟩, ⟨p1, by rw [cm 3 (by decide) (by decide) (by decide)]; exact p2, by rw [rv 19 (by decide) (by decide) (by decide) (by decide)]; exact p3⟩, ⟨nm, by decide, fun v hv => absurd hv (by omega)⟩, fun v hv => absurd hv (by omega), ⟨fun v h1 h2 => by rw [cr (m + 6) (by omega) (by omega)]; exact p6 v h1 h2, fun v h1 => by rw [cr (m + 7) (by omega) (by omega)]; exact p7 v h1⟩, PE_f p8 (cm 4 (by decide) (by decide) (by decide)) (fun k _ _ => cr k (by omega) (by omega)) (rv 20 (by decide) (by decide) (by decide) (by decide)) (rr 108 (by decide))⟩
              · rw [wi_ne (by decide), t7.1 m (by omega), wi_ne (by decide), s7.1 m (by omega), wi_eq]
              · rw [wi_ne (by decide), wi_ne (by decide), wi_eq]
              · rw [wi_ne (by decide), t7.1 m (by omega), wi_eq]
              · rw [wi_ne (by decide), wi_eq]
  · obtain ⟨σ', τ', q1, q2, q3, q4, q5⟩ := bad_ok (c := 3) hT (by omega)
    obtain ⟨f, pf, -, -, hF⟩ := id q3
    have e12 := ft_order hF
    refine Or.inl ⟨σ', τ', ?_, ?_, q3, CGL q4, RXL q5⟩
    · rw [if_neg (show ¬ σ.1 m 0 = (0 : Int32) by rw [h0]; show ¬ I W = I 0; rw [I_eq (by unfold R; omega) (by unfold R; omega)]; exact cW), q1, bd_s]
      rfl
    · unfold f_X7_readOrderLine
      simp (disch := omega) only [gd_t, bd_s, nm_W, nm_I, I_add, I_sub, I_mul, I_neg, I_le_t, I_le_f, I_lt_t, I_lt_f, I_eq_t, I_eq_f, I_inb', I_ix', Int.toNat_natCast, decide_true, decide_false, Bool.not_false, Bool.not_true, if_true, if_false, wi_eq, wi_eq', wi_ne, wi_row, wi_2, N0, N1, N2, N3, N4, N5, N6, N7, N8, N9, N10, N11, N12, N13, N14, N15, N16, N17, N18, N19, N20, N21, N22, N23, N24, N25, N26, N27, N28, N29, N30, N31, N32, N33, N34, N35, N36, N37, N38, N39, N40, N41, N42, N43, N45, N48, N57, N59, N88, N89, N97, N99, N120, N121, N122, N179, N200, N255, N300, N400, N880, N900, N999, N1019, N50000000, N100000000, N1000000000, N2147483647, N2147483648, h16, q2]
      exact e12
