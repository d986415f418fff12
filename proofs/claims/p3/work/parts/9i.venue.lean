/-! PURE: the text: a venue's line -/
def vR6 (m : Nat) (a : Int32) (σ28 : Wd) : Option (Int32 × Wd) := gd (inb a 5) (nmW (wi σ28 (m + 5) (ix a) (σ28.1 1 10)) fun σ29 => nmW (wi σ29 m 3 ((σ29.1 m 3) + (1 : Int32))) fun σ30 => gd (isb (1 : Int32)) (some ((1 : Int32), σ30)))
def vR5 (m : Nat) (a : Int32) (σ23 : Wd) : Option (Int32 × Wd) := gd (inb a 5) (nmW (wi σ23 (m + 4) (ix a) (σ23.1 1 10)) fun σ24 => bd (f_X5_takesWord 12 σ24) fun r25 σ26 => if r25 = 0 then (f_X5_readVenue_169 m σ26) else (bd (f_X5_takesWhole (I 1) (I 9) σ26) fun r27 σ28 => if r27 = 0 then (f_X5_readVenue_169 m σ28) else vR6 m a σ28))
def vR4 (m : Nat) (a : Int32) (σ18 : Wd) : Option (Int32 × Wd) := gd (inb a 5) (nmW (wi σ18 (m + 3) (ix a) (σ18.1 1 10)) fun σ19 => bd (f_X5_takesWord 11 σ19) fun r20 σ21 => if r20 = 0 then (f_X5_readVenue_138 m σ21) else (bd (f_X5_takesWhole (I 0) (I 300) σ21) fun r22 σ23 => if r22 = 0 then (f_X5_readVenue_138 m σ23) else vR5 m a σ23))
def vR3 (m : Nat) (a : Int32) (σ15 : Wd) : Option (Int32 × Wd) := gd (inb a 5) (nmW (wi σ15 (m + 2) (ix a) (σ15.1 1 10)) fun σ16 => bd (f_X5_takesFee σ16) fun r17 σ18 => if r17 = 0 then (gd (isb (0 : Int32)) (some ((0 : Int32), σ18))) else vR4 m a σ18)
def vR2 (m : Nat) (a : Int32) (σ10 : Wd) : Option (Int32 × Wd) := gd (inb a 5) (nmW (wi σ10 (m + 1) (ix a) (σ10.1 1 10)) fun σ11 => bd (f_X5_takesWord 9 σ11) fun r12 σ13 => if r12 = 0 then (f_X5_readVenue_87 m σ13) else (bd (f_X5_takesWhole (I 1) (I 20) σ13) fun r14 σ15 => if r14 = 0 then (f_X5_readVenue_87 m σ15) else vR3 m a σ15))
def vR1 (m : Nat) (a : Int32) (σ6 : Wd) : Option (Int32 × Wd) := gd (inb a 5) (nmW (wi σ6 3 (ix a) (σ6.1 1 9)) fun σ7 => bd (f_X5_step σ7) fun _ σ8 => bd (f_X5_takesKind σ8) fun r9 σ10 => if r9 = 0 then (gd (isb (0 : Int32)) (some ((0 : Int32), σ10))) else vR2 m a σ10)
theorem vR_eq {m : Nat} {a : Int32} {σ : Wd} : f_X5_readVenue m a σ = bd (f_X5_isName σ) fun r1 σ2 => if r1 = 0 then (bd (f_X5_fails (I 1) σ2) fun r3 σ4 => gd (isb r3) (some (r3, σ4))) else (bd (f_X5_venueNamed (σ2.1 1 9) (σ2.1 m 3) σ2) fun r5 σ6 => if r5 = I (-1) then vR1 m a σ6 else (bd (f_X5_fails (I 3) σ6) fun r31 σ32 => gd (isb r31) (some (r31, σ32)))) := rfl
theorem ft_ven49 {τ : Wd} {f : Int} {pl : Nat} (h : FT τ f pl) : f_X7_readVenueLine_49 τ = some (0, τ) := by
  have e2 := ft_next h
  have e3 := ft_kind h
  have e4 := ft_part (w := 9) (lo := I 1) (hi := I 20) (by decide) h
  have e5 := ft_fee h
  have e6 := ft_part (w := 11) (lo := I 0) (hi := I 300) (by decide) h
  have e7 := ft_part (w := 12) (lo := I 1) (hi := I 9) (by decide) h
  obtain ⟨h1, h2, h3, h4, h5⟩ := h
  unfold f_X7_readVenueLine_49
  simp (disch := omega) only [gd_t, bd_s, nm_W, nm_I, I_add, I_sub, I_mul, I_neg, I_le_t, I_le_f, I_lt_t, I_lt_f, I_eq_t, I_eq_f, I_inb', I_ix', Int.toNat_natCast, decide_true, decide_false, Bool.not_false, Bool.not_true, if_true, if_false, wi_eq, wi_eq', wi_ne, wi_row, wi_2, N0, N1, N2, N3, N4, N5, N6, N7, N8, N9, N10, N11, N12, N13, N14, N15, N16, N17, N18, N19, N20, N21, N22, N23, N24, N25, N26, N27, N28, N29, N30, N31, N32, N33, N34, N35, N36, N37, N38, N39, N40, N41, N42, N43, N45, N48, N57, N59, N88, N89, N97, N99, N120, N121, N122, N179, N200, N255, N300, N400, N880, N900, N999, N1019, N50000000, N100000000, N1000000000, N2147483647, N2147483648, e2, e3, e4, e5, e6, e7, h1]
/-- the cells that a venue's line leaves alone -/
def VC (m V : Nat) (σ σ' : Wd) : Prop := ∀ k i, k ≠ 1 → (k = 3 ∨ (m + 1 ≤ k ∧ k ≤ m + 5) → i ≠ V) → (k = m → i ≠ 3) → σ'.1 k i = σ.1 k i
theorem VCt {m V : Nat} {a b c : Wd} (h : VC m V a b) (g : VC m V b c) : VC m V a c := fun k i h1 h2 h3 => by rw [g k i h1 h2 h3, h k i h1 h2 h3]
theorem VCg {m V : Nat} {a b : Wd} (h : CG a b) : VC m V a b := fun k i h1 _ _ => by rw [h.1 k h1]
theorem VCw {m V j : Nat} {σ : Wd} {x : Int32} (h : j = 3 ∨ (m + 1 ≤ j ∧ j ≤ m + 5)) : VC m V σ (wi σ j V x) := fun k i _ h2 _ => by
  by_cases e : k = j
  · subst e
    rw [wi_ne (h2 h)]
  · rw [wi_row e]
theorem VCm {m V : Nat} {σ : Wd} {x : Int32} : VC m V σ (wi σ m 3 x) := fun k i _ _ h3 => by
  by_cases e : k = m
  · subst e
    rw [wi_ne (h3 rfl)]
  · rw [wi_row e]
def dV (d : MD) (V : Nat) (a b c e : Int) : MD := ((fun j => if j = V then a else d.kd j, fun j => if j = V then b else d.lo j, fun j => if j = V then c else d.fe j, fun j => if j = V then e else d.le j), (fun j => if j = V then 0 else d.lv j), d.pr, d.sz)
theorem MDok_dV {d : MD} {V : Nat} {a b c e : Int} (h : MDok d V) (hV : V < 5) (ha : 0 ≤ a ∧ a ≤ 2) (hb : 1 ≤ b ∧ b ≤ 20) (hc : -9 ≤ c ∧ c ≤ 9) (he : 0 ≤ e ∧ e ≤ 300) : MDok (dV d V a b c e) (V + 1) := by
  refine ⟨by omega, fun v hv => ?_⟩
  show (0 ≤ (if v = V then a else d.kd v) ∧ (if v = V then a else d.kd v) ≤ 2) ∧ (1 ≤ (if v = V then b else d.lo v) ∧ (if v = V then b else d.lo v) ≤ 20) ∧ (-9 ≤ (if v = V then c else d.fe v) ∧ (if v = V then c else d.fe v) ≤ 9) ∧ (0 ≤ (if v = V then e else d.le v) ∧ (if v = V then e else d.le v) ≤ 300) ∧ (if v = V then 0 else d.lv v) ≤ 6 ∧ lvOk d.pr d.sz (if v = V then 0 else d.lv v) (6 * v)
  by_cases q : v = V
  · rw [if_pos q, if_pos q, if_pos q, if_pos q, if_pos q]
    exact ⟨ha, hb, hc, he, by omega, fun i h1 h2 => by omega⟩
  · rw [if_neg q, if_neg q, if_neg q, if_neg q, if_neg q]
    exact h.2 v (by omega)
/-- the state of the reference behind a venue's line -/
def vF (τ : Wd) (V : Nat) (x : Int64) (a b c e g : Int) : Wd := wi (wi (wi (wi (wi (wi (wi (wl τ 111 V x) 106 (5 * V) (I a)) 106 (5 * V + 1) (I b)) 106 (5 * V + 2) (I e)) 106 (5 * V + 3) (I g)) 106 (5 * V + 4) (I 0)) 110 V (I c)) 102 19 (I ((V : Int) + 1))
theorem vF_w {τ τ1 τ2 τ3 τ4 τ5 τ6 : Wd} {V : Nat} {a b c e g : Int} (hV : V < 5) (n1 : f_X7_next τ = some (0, τ1)) (n2 : f_X7_readKind τ1 = some (I a, τ2)) (n3 : f_X7_readPart 9 (I 1) (I 20) τ2 = some (I b, τ3)) (n4 : f_X7_readFeeOf τ3 = some (I c, τ4)) (n5 : f_X7_readPart 11 (I 0) (I 300) τ4 = some (I e, τ5)) (n6 : f_X7_readPart 12 (I 1) (I 9) τ5 = some (I g, τ6)) (h33 : τ6.1 102 33 = I 0) (h19 : τ6.1 102 19 = I (V : Int)) : f_X7_readVenueLine_49 τ = some (0, vF τ6 V (τ.2.1 102 34) a b c e g) := by
  have t0 : ((5 : Int) * (V : Int) + 0).toNat = 5 * V := by omega
  have t1 : ((5 : Int) * (V : Int) + 1).toNat = 5 * V + 1 := by omega
  have t2 : ((5 : Int) * (V : Int) + 2).toNat = 5 * V + 2 := by omega
  have t3 : ((5 : Int) * (V : Int) + 3).toNat = 5 * V + 3 := by omega
  have t4 : ((5 : Int) * (V : Int) + 4).toNat = 5 * V + 4 := by omega
  unfold f_X7_readVenueLine_49 vF
  simp (disch := omega) only [gd_t, bd_s, nm_W, nm_I, I_add, I_sub, I_mul, I_neg, I_le_t, I_le_f, I_lt_t, I_lt_f, I_eq_t, I_eq_f, I_inb', I_ix', Int.toNat_natCast, decide_true, decide_false, Bool.not_false, Bool.not_true, if_true, if_false, wi_eq, wi_eq', wi_ne, wi_row, wi_2, N0, N1, N2, N3, N4, N5, N6, N7, N8, N9, N10, N11, N12, N13, N14, N15, N16, N17, N18, N19, N20, N21, N22, N23, N24, N25, N26, N27, N28, N29, N30, N31, N32, N33, N34, N35, N36, N37, N38, N39, N40, N41, N42, N43, N45, N48, N57, N59, N88, N89, N97, N99, N120, N121, N122, N179, N200, N255, N300, N400, N880, N900, N999, N1019, N50000000, N100000000, N1000000000, N2147483647, N2147483648, n1, n2, n3, n4, n5, n6, h33, h19, t0, t1, t2, t3, t4, wl_1]
theorem ven_good {m V E N pl' : Nat} {bt : Nat → Int} {σ τ σ6 τ6 : Wd} {W p L a b c e g k' n' : Int} {l l' : List Int} {d : MD} {dl et : Nat → Int} (hm : 10 < m) (hV : V < 5) (hW : W ≠ 0) (hP : PRD m σ τ W p L V E d dl et) (hl : ltr l) (l6 : l.length ≤ 6)
    (hv : VC m V σ (wi (wi σ6 (m + 5) V (I g)) m 3 (I ((V : Int) + 1)))) (hr : RX τ τ6) (hT : TK σ6 τ6 N bt pl' k' l' n') (e3 : σ6.1 3 V = I (w27 l)) (e1 : σ6.1 (m + 1) V = I a) (e2 : σ6.1 (m + 2) V = I b) (e4 : σ6.1 (m + 3) V = I c) (e5 : σ6.1 (m + 4) V = I e)
    (ha : 0 ≤ a ∧ a ≤ 2) (hb : 1 ≤ b ∧ b ≤ 20) (hc : -9 ≤ c ∧ c ≤ 9) (he : 0 ≤ e ∧ e ≤ 300) (hg : 1 ≤ g ∧ g ≤ 9) :
    PRD m (wi (wi σ6 (m + 5) V (I g)) m 3 (I ((V : Int) + 1))) (vF τ6 V (w64 l) a b c e g) W p L (V + 1) E (dV d V a b c e) (fun j => if j = V then g else dl j) et ∧ TK (wi (wi σ6 (m + 5) V (I g)) m 3 (I ((V : Int) + 1))) (vF τ6 V (w64 l) a b c e g) N bt pl' k' l' n' := by
  obtain ⟨⟨p0, p16, pW0, pW1, pW2⟩, pp, ⟨q1, q2, q3⟩, ⟨nm, q4⟩, q5, ⟨q6, q7⟩, q8⟩ := hP
  obtain ⟨σF, hσ⟩ : ∃ s, s = wi (wi σ6 (m + 5) V (I g)) m 3 (I ((V : Int) + 1)) := ⟨_, rfl⟩
  obtain ⟨τF, hτ⟩ : ∃ s, s = vF τ6 V (w64 l) a b c e g := ⟨_, rfl⟩
  have f1 : ∀ k, k ≠ 1 → k ≠ 3 → k < m ∨ m + 5 < k → σF.1 k = σ.1 k := fun k g1 g2 g3 => by rw [hσ]; exact funext fun i => hv k i g1 (fun q => by omega) (fun q => by omega)
  have f2 : ∀ k i, k = 3 ∨ (m + 1 ≤ k ∧ k ≤ m + 5) → i ≠ V → σF.1 k i = σ.1 k i := fun k i g1 g2 => by rw [hσ]; exact hv k i (by omega) (fun _ => g2) (fun q => by omega)
  have f3 : ∀ i, i ≠ 3 → σF.1 m i = σ.1 m i := fun i g1 => by rw [hσ]; exact hv m i (by omega) (fun q => by omega) (fun _ => g1)
  have r1 : ∀ k, k ≠ 102 → k ≠ 106 → k ≠ 110 → τF.1 k = τ.1 k := fun k g1 g2 g3 => by
    rw [hτ]; unfold vF
    rw [wi_row g1, wi_row g3, wi_row g2, wi_row g2, wi_row g2, wi_row g2, wi_row g2, wl_1, hr.1 k g1]
  have r2 : ∀ i, i ≠ 19 → τF.1 102 i = τ6.1 102 i := fun i g1 => by
    rw [hτ]; unfold vF
    rw [wi_ne g1, wi_row (by decide), wi_row (by decide), wi_row (by decide), wi_row (by decide), wi_row (by decide), wi_row (by decide), wl_1]
  have r3 : ∀ i, i < 5 * V → τF.1 106 i = τ.1 106 i := fun i g1 => by
    rw [hτ]; unfold vF
    rw [wi_row (by decide), wi_row (by decide), wi_ne (by omega), wi_ne (by omega), wi_ne (by omega), wi_ne (by omega), wi_ne (by omega), wl_1, hr.1 106 (by decide)]
  have r4 : ∀ i, i ≠ V → τF.1 110 i = τ.1 110 i := fun i g1 => by
    rw [hτ]; unfold vF
    rw [wi_row (by decide), wi_ne g1, wi_row (by decide), wi_row (by decide), wi_row (by decide), wi_row (by decide), wi_row (by decide), wl_1, hr.1 110 (by decide)]
  have r5 : ∀ i, i ≠ V → τF.2.1 111 i = τ.2.1 111 i := fun i g1 => by
    rw [hτ]; unfold vF
    rw [wi_2, wi_2, wi_2, wi_2, wi_2, wi_2, wi_2, wl_ne g1, hr.2.2.1 111 (by decide)]
  rw [← hσ, ← hτ]
  constructor
  · refine ⟨⟨by rw [f3 0 (by decide)]; exact p0, by rw [r2 16 (by decide), hr.2.1 16 (by decide)]; exact p16, pW0, pW1, fun q => absurd q hW⟩, fun q => ?_, ⟨MDok_dV q1 hV ha hb hc he, by rw [hσ, wi_eq]; rfl, by rw [hτ]; unfold vF; rw [wi_eq]; rfl⟩, ⟨fun j => if j = V then l else nm j, by omega, fun v hv => ?_⟩, fun v hv => ?_, ⟨fun v g1 g2 => by rw [f1 (m + 6) (by omega) (by omega) (by omega)]; exact q6 v (by omega) g2, fun v g1 => by rw [f1 (m + 7) (by omega) (by omega) (by omega)]; exact q7 v g1⟩, ?_⟩
    · rw [f3 1 (by decide), f3 2 (by decide), r2 17 (by decide), r2 18 (by decide), hr.2.1 17 (by decide), hr.2.1 18 (by decide)]
      exact pp q
    · show ltr (if v = V then l else nm v) ∧ (if v = V then l else nm v).length ≤ 6 ∧ σF.1 3 v = I (w27 (if v = V then l else nm v)) ∧ τF.2.1 111 v = w64 (if v = V then l else nm v)
      by_cases q : v = V
      · rw [if_pos q]
        refine ⟨hl, l6, ?_, ?_⟩
        · rw [hσ, q, wi_row (by omega), wi_row (by omega)]; exact e3
        · rw [hτ, q]; unfold vF; rw [wi_2, wi_2, wi_2, wi_2, wi_2, wi_2, wi_2, wl_eq]
      · rw [if_neg q, f2 3 v (Or.inl rfl) q, r5 v q]
        exact q4.2 v (by omega)
    · unfold PV
      show (σF.1 (m + 1) v = I (if v = V then a else d.kd v) ∧ τF.1 106 (5 * v) = I (if v = V then a else d.kd v)) ∧ (σF.1 (m + 2) v = I (if v = V then b else d.lo v) ∧ τF.1 106 (5 * v + 1) = I (if v = V then b else d.lo v)) ∧ (σF.1 (m + 3) v = I (if v = V then c else d.fe v) ∧ τF.1 110 v = I (if v = V then c else d.fe v)) ∧ (σF.1 (m + 4) v = I (if v = V then e else d.le v) ∧ τF.1 106 (5 * v + 2) = I (if v = V then e else d.le v)) ∧ (σF.1 (m + 5) v = I (if v = V then g else dl v) ∧ τF.1 106 (5 * v + 3) = I (if v = V then g else dl v) ∧ 1 ≤ (if v = V then g else dl v) ∧ (if v = V then g else dl v) ≤ 9) ∧ (σF.1 (m + 6) v = I ((if v = V then 0 else d.lv v : Nat) : Int) ∧ τF.1 106 (5 * v + 4) = I ((if v = V then 0 else d.lv v : Nat) : Int))
        ∧ ∀ k, k < (if v = V then 0 else d.lv v) → (σF.1 (m + 8) (6 * v + k) = I (d.pr (6 * v + k)) ∧ τF.1 107 (6 * v + k) = I (d.pr (6 * v + k))) ∧ (σF.1 (m + 9) (6 * v + k) = I (d.sz (6 * v + k)) ∧ τF.1 109 (6 * v + k) = I (d.sz (6 * v + k)))
      by_cases q : v = V
      · subst q
        rw [if_pos rfl, if_pos rfl, if_pos rfl, if_pos rfl, if_pos rfl, if_pos rfl]
        refine ⟨⟨?_, ?_⟩, ⟨?_, ?_⟩, ⟨?_, ?_⟩, ⟨?_, ?_⟩, ⟨?_, ?_, hg.1, hg.2⟩, ⟨?_, ?_⟩, fun k hk => absurd hk (by omega)⟩
        · rw [hσ, wi_row (by omega), wi_row (by omega)]; exact e1
        · rw [hτ]; unfold vF; simp (disch := omega) only [wi_eq, wi_eq', wi_ne, wi_row, wi_2]
        · rw [hσ, wi_row (by omega), wi_row (by omega)]; exact e2
        · rw [hτ]; unfold vF; simp (disch := omega) only [wi_eq, wi_eq', wi_ne, wi_row, wi_2]
        · rw [hσ, wi_row (by omega), wi_row (by omega)]; exact e4
        · rw [hτ]; unfold vF; simp (disch := omega) only [wi_eq, wi_eq', wi_ne, wi_row, wi_2]
        · rw [hσ, wi_row (by omega), wi_row (by omega)]; exact e5
        · rw [hτ]; unfold vF; simp (disch := omega) only [wi_eq, wi_eq', wi_ne, wi_row, wi_2]
        · rw [hσ, wi_row (by omega), wi_eq]
        · rw [hτ]; unfold vF; simp (disch := omega) only [wi_eq, wi_eq', wi_ne, wi_row, wi_2]
        · rw [f1 (m + 6) (by omega) (by omega) (by omega)]; exact q6 v (Nat.le_refl _) hV
        · rw [hτ]; unfold vF; simp (disch := omega) only [wi_eq, wi_eq', wi_ne, wi_row, wi_2]; rfl
      · have lt : v < V := by omega
        rw [if_neg q, if_neg q, if_neg q, if_neg q, if_neg q, if_neg q]
        rw [f2 (m + 1) v (by omega) q, f2 (m + 2) v (by omega) q, f2 (m + 3) v (by omega) q, f2 (m + 4) v (by omega) q, f2 (m + 5) v (by omega) q, f1 (m + 6) (by omega) (by omega) (by omega), f1 (m + 8) (by omega) (by omega) (by omega), f1 (m + 9) (by omega) (by omega) (by omega), r3 (5 * v) (by omega), r3 (5 * v + 1) (by omega), r3 (5 * v + 2) (by omega), r3 (5 * v + 3) (by omega), r3 (5 * v + 4) (by omega), r4 v q, r1 107 (by decide) (by decide) (by decide), r1 109 (by decide) (by decide) (by decide)]
        exact q5 v lt
    · obtain ⟨x1, x2, x3, x4, x5⟩ := q8
      refine ⟨x1, by rw [f3 4 (by decide)]; exact x2, by rw [r2 20 (by decide), hr.2.1 20 (by decide)]; exact x3, fun i hi => ?_, x5⟩
      obtain ⟨u, k, z, y1, y2, y3⟩ := x4 i hi
      refine ⟨u, k, z, by omega, ?_, ?_⟩
      · show k < (if u = V then 0 else d.lv u)
        rw [if_neg (by omega)]
        exact y2
      · rw [f1 (m + 10) (by omega) (by omega) (by omega), f1 (m + 11) (by omega) (by omega) (by omega), f1 (m + 12) (by omega) (by omega) (by omega), r1 108 (by decide) (by decide) (by decide)]
        exact y3
  · refine TK_c hT (fun i _ => ?_) (fun i g1 g2 => r2 i (by omega)) ?_
    · rw [hσ, wi_row (by omega), wi_row (by omega)]
    · rw [hτ]; unfold vF; rw [wi_2, wi_2, wi_2, wi_2, wi_2, wi_2, wi_2, wl_row (by decide)]
