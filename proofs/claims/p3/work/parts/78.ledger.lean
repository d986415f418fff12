/-! PURE: the ledger -/
def fi (P : Nat → Bool) : Nat → Nat → Option Nat
  | 0, _ => none
  | r + 1, i => if P i then some i else fi P r (i + 1)
def fo : Option Nat → Int
  | none => -1
  | some i => (i : Int)
theorem fi_some {P : Nat → Bool} {j : Nat} : ∀ (r i : Nat), fi P r i = some j → i ≤ j ∧ j < i + r ∧ P j = true
  | 0, _, h => by cases h
  | r + 1, i, h => by
    unfold fi at h
    split at h
    · rename_i c
      cases h
      exact ⟨Nat.le_refl _, by omega, c⟩
    · have := fi_some r (i + 1) h
      exact ⟨by omega, by omega, this.2.2⟩
theorem fi_none {P : Nat → Bool} : ∀ (r i : Nat), fi P r i = none → ∀ j, i ≤ j → j < i + r → P j = false
  | 0, _, _, j, h1, h2 => absurd h2 (by omega)
  | r + 1, i, h, j, h1, h2 => by
    unfold fi at h
    split at h
    · cases h
    · rename_i c
      by_cases e : j = i
      · subst e
        exact Bool.eq_false_iff.mpr c
      · exact fi_none r (i + 1) h j (by omega) (by omega)
def mt (σ : Wd) (b : Nat) (x1 x2 : Int32) (i : Nat) : Bool := decide (σ.1 (b + 1) i = x1 ∧ σ.1 (b + 2) i = x2)
theorem c_find {b : Nat} {σ : Wd} {c : Nat} {x1 x2 : Int32} (hc : c ≤ 30) (h : σ.1 b 0 = I (c : Int)) :
    ∀ (r i n : Nat) (z : Int), z = (i : Int) → i + r = c → r < n → f_X2_find_2 b n x1 x2 (I z) σ = some (I (fo (fi (mt σ b x1 x2) r i)), σ)
  | 0, i, n + 1, z, hz, hi, _ => by
    rw [f_X2_find_2]
    simp (disch := omega) only [gd_t, bd_s, nm_W, nm_I, I_add, I_sub, I_mul, I_neg, I_le_t, I_le_f, I_lt_t, I_lt_f, I_eq_t, I_eq_f, I_inb', I_ix', Int.toNat_natCast, decide_true, decide_false, Bool.not_false, Bool.not_true, if_true, if_false, wi_eq, wi_eq', wi_ne, wi_row, wi_2, N0, N1, N2, N3, N4, N5, N6, N7, N8, N9, N10, N11, N12, N13, N14, N15, N16, N17, N18, N19, N20, N21, N22, N23, N24, N25, N26, N27, N28, N29, N30, N31, N32, N33, N34, N35, N36, N37, N38, N39, N40, N41, N42, N43, N45, N48, N57, N59, N88, N89, N97, N99, N120, N121, N122, N179, N200, N255, N300, N400, N880, N900, N999, N1019, N50000000, N100000000, N1000000000, N2147483647, N2147483648, h, fi, fo]
  | r + 1, i, n + 1, z, hz, hi, hn => by
    subst hz
    have ih := c_find (x1 := x1) (x2 := x2) hc h r (i + 1) n ((i : Int) + 1) (by omega) (by omega) (by omega)
    unfold fi mt
    by_cases c1 : σ.1 (b + 1) i = x1
    · by_cases c2 : σ.1 (b + 2) i = x2
      · rw [if_pos (decide_eq_true ⟨c1, c2⟩), f_X2_find_2]
        simp (disch := omega) only [gd_t, bd_s, nm_W, nm_I, I_add, I_sub, I_mul, I_neg, I_le_t, I_le_f, I_lt_t, I_lt_f, I_eq_t, I_eq_f, I_inb', I_ix', Int.toNat_natCast, decide_true, decide_false, Bool.not_false, Bool.not_true, if_true, if_false, wi_eq, wi_eq', wi_ne, wi_row, wi_2, N0, N1, N2, N3, N4, N5, N6, N7, N8, N9, N10, N11, N12, N13, N14, N15, N16, N17, N18, N19, N20, N21, N22, N23, N24, N25, N26, N27, N28, N29, N30, N31, N32, N33, N34, N35, N36, N37, N38, N39, N40, N41, N42, N43, N45, N48, N57, N59, N88, N89, N97, N99, N120, N121, N122, N179, N200, N255, N300, N400, N880, N900, N999, N1019, N50000000, N100000000, N1000000000, N2147483647, N2147483648, h, if_pos c1, if_pos c2]
        rfl
      · rw [if_neg (by rw [decide_eq_true_iff]; exact fun q => c2 q.2), f_X2_find_2]
        simp (disch := omega) only [gd_t, bd_s, nm_W, nm_I, I_add, I_sub, I_mul, I_neg, I_le_t, I_le_f, I_lt_t, I_lt_f, I_eq_t, I_eq_f, I_inb', I_ix', Int.toNat_natCast, decide_true, decide_false, Bool.not_false, Bool.not_true, if_true, if_false, wi_eq, wi_eq', wi_ne, wi_row, wi_2, N0, N1, N2, N3, N4, N5, N6, N7, N8, N9, N10, N11, N12, N13, N14, N15, N16, N17, N18, N19, N20, N21, N22, N23, N24, N25, N26, N27, N28, N29, N30, N31, N32, N33, N34, N35, N36, N37, N38, N39, N40, N41, N42, N43, N45, N48, N57, N59, N88, N89, N97, N99, N120, N121, N122, N179, N200, N255, N300, N400, N880, N900, N999, N1019, N50000000, N100000000, N1000000000, N2147483647, N2147483648, h, if_pos c1, if_neg c2, f_X2_find_32]
        exact ih
    · rw [if_neg (by rw [decide_eq_true_iff]; exact fun q => c1 q.1), f_X2_find_2]
      simp (disch := omega) only [gd_t, bd_s, nm_W, nm_I, I_add, I_sub, I_mul, I_neg, I_le_t, I_le_f, I_lt_t, I_lt_f, I_eq_t, I_eq_f, I_inb', I_ix', Int.toNat_natCast, decide_true, decide_false, Bool.not_false, Bool.not_true, if_true, if_false, wi_eq, wi_eq', wi_ne, wi_row, wi_2, N0, N1, N2, N3, N4, N5, N6, N7, N8, N9, N10, N11, N12, N13, N14, N15, N16, N17, N18, N19, N20, N21, N22, N23, N24, N25, N26, N27, N28, N29, N30, N31, N32, N33, N34, N35, N36, N37, N38, N39, N40, N41, N42, N43, N45, N48, N57, N59, N88, N89, N97, N99, N120, N121, N122, N179, N200, N255, N300, N400, N880, N900, N999, N1019, N50000000, N100000000, N1000000000, N2147483647, N2147483648, h, if_neg c1, f_X2_find_32]
      exact ih
theorem cFind {b : Nat} {σ : Wd} {c : Nat} {x1 x2 : Int32} (hc : c ≤ 30) (h : σ.1 b 0 = I (c : Int)) : f_X2_find b x1 x2 σ = some (I (fo (fi (mt σ b x1 x2) c 0)), σ) :=
  c_find hc h c 0 FU 0 rfl (by omega) (by show _ < 6000; omega)
theorem php : ∀ (n : Nat) (f : Nat → Nat), (∀ i, i < n + 1 → f i < n) → (∀ i j, i < n + 1 → j < n + 1 → f i = f j → i = j) → False
  | 0, f, h, _ => absurd (h 0 (by omega)) (by omega)
  | n + 1, f, h, hi => by
    refine php n (fun i => if f i = n then f (n + 1) else f i) (fun i h1 => ?_) (fun i j h1 h2 h3 => ?_)
    · show (if f i = n then f (n + 1) else f i) < n
      have b1 := h i (by omega)
      have b2 := h (n + 1) (by omega)
      by_cases c : f i = n
      · rw [if_pos c]
        have : f (n + 1) ≠ n := fun e => by
          have := hi i (n + 1) (by omega) (by omega) (by omega)
          omega
        omega
      · rw [if_neg c]
        omega
    · have h3 : (if f i = n then f (n + 1) else f i) = (if f j = n then f (n + 1) else f j) := h3
      by_cases c1 : f i = n
      · by_cases c2 : f j = n
        · exact hi i j (by omega) (by omega) (by omega)
        · rw [if_pos c1, if_neg c2] at h3
          have := hi (n + 1) j (by omega) (by omega) h3
          omega
      · by_cases c2 : f j = n
        · rw [if_neg c1, if_pos c2] at h3
          have := hi i (n + 1) (by omega) (by omega) h3
          omega
        · rw [if_neg c1, if_neg c2] at h3
          exact hi i j (by omega) (by omega) h3
/-- class ledger at b = run + 9, and the reference's -/
def LR (b : Nat) (σ τ : Wd) (V : Nat) (d : MD) : Prop := ∃ (c : Nat) (sl : Nat → Nat), c ≤ 30 ∧ σ.1 b 0 = I (c : Int) ∧ τ.1 112 88 = I (c : Int)
  ∧ (∀ i, i < c → (sl i / 6 < V ∧ sl i % 6 < d.lv (sl i / 6)) ∧ σ.1 (b + 1) i = I ((sl i / 6 : Nat) : Int) ∧ σ.1 (b + 2) i = I (d.pr (sl i)) ∧ τ.1 112 (89 + 3 * i) = σ.1 (b + 1) i ∧ τ.1 112 (90 + 3 * i) = σ.1 (b + 2) i ∧ τ.1 112 (91 + 3 * i) = σ.1 (b + 3) i)
  ∧ (∀ i j, i < c → j < c → sl i = sl j → i = j)
/-- what the reference's loop does: the first that fits grows, else a new one comes -/
theorem r_notes {b : Nat} {σ τ : Wd} {c : Nat} {x1 x2 x3 : Int32} (hc : c ≤ 30) (h : τ.1 112 88 = I (c : Int)) (he : ∀ i, i < c → τ.1 112 (89 + 3 * i) = σ.1 (b + 1) i ∧ τ.1 112 (90 + 3 * i) = σ.1 (b + 2) i) :
    ∀ (r i n : Nat) (z y : Int), z = (i : Int) → y = 89 + 3 * (i : Int) → i + r = c → r < n → (fi (mt σ b x1 x2) r i = none → c < 30) →
      f_X7_notes_7 n x1 x2 x3 (I y) (I z) τ = match fi (mt σ b x1 x2) r i with
        | some j => some (0, wi τ 112 (91 + 3 * j) (τ.1 112 (91 + 3 * j) + x3))
        | none => some (0, wi (wi (wi (wi τ 112 (89 + 3 * c) x1) 112 (90 + 3 * c) x2) 112 (91 + 3 * c) x3) 112 88 (I ((c : Int) + 1)))
  | 0, i, n + 1, z, y, hz, hy, hi, _, hf => by
    have c30 := hf rfl
    have e88 : Int.toNat 88 = 88 := rfl
    have t1 : y.toNat = 89 + 3 * c := by omega
    have t2 : (y + 1).toNat = 90 + 3 * c := by omega
    have t3 : (y + 2).toNat = 91 + 3 * c := by omega
    unfold fi
    rw [f_X7_notes_7]
    simp (disch := omega) only [gd_t, bd_s, nm_W, nm_I, I_add, I_sub, I_mul, I_neg, I_le_t, I_le_f, I_lt_t, I_lt_f, I_eq_t, I_eq_f, I_inb', I_ix', Int.toNat_natCast, decide_true, decide_false, Bool.not_false, Bool.not_true, if_true, if_false, wi_eq, wi_eq', wi_ne, wi_row, wi_2, N0, N1, N2, N3, N4, N5, N6, N7, N8, N9, N10, N11, N12, N13, N14, N15, N16, N17, N18, N19, N20, N21, N22, N23, N24, N25, N26, N27, N28, N29, N30, N31, N32, N33, N34, N35, N36, N37, N38, N39, N40, N41, N42, N43, N45, N48, N57, N59, N88, N89, N97, N99, N120, N121, N122, N179, N200, N255, N300, N400, N880, N900, N999, N1019, N50000000, N100000000, N1000000000, N2147483647, N2147483648, e88, h, t1, t2, t3]
  | r + 1, i, n + 1, z, y, hz, hy, hi, hn, hf => by
    subst hz
    have e88 : Int.toNat 88 = 88 := rfl
    have t1 : y.toNat = 89 + 3 * i := by omega
    have t2 : (y + 1).toNat = 90 + 3 * i := by omega
    have t3 : (y + 2).toNat = 91 + 3 * i := by omega
    obtain ⟨e1, e2⟩ := he i (by omega)
    have ef : fi (mt σ b x1 x2) (r + 1) i = if mt σ b x1 x2 i then some i else fi (mt σ b x1 x2) r (i + 1) := rfl
    by_cases c1 : σ.1 (b + 1) i = x1
    · by_cases c2 : σ.1 (b + 2) i = x2
      · have em : mt σ b x1 x2 i = true := decide_eq_true ⟨c1, c2⟩
        rw [em, if_pos rfl] at ef
        rw [ef, f_X7_notes_7]
        simp (disch := omega) only [gd_t, bd_s, nm_W, nm_I, I_add, I_sub, I_mul, I_neg, I_le_t, I_le_f, I_lt_t, I_lt_f, I_eq_t, I_eq_f, I_inb', I_ix', Int.toNat_natCast, decide_true, decide_false, Bool.not_false, Bool.not_true, if_true, if_false, wi_eq, wi_eq', wi_ne, wi_row, wi_2, N0, N1, N2, N3, N4, N5, N6, N7, N8, N9, N10, N11, N12, N13, N14, N15, N16, N17, N18, N19, N20, N21, N22, N23, N24, N25, N26, N27, N28, N29, N30, N31, N32, N33, N34, N35, N36, N37, N38, N39, N40, N41, N42, N43, N45, N48, N57, N59, N88, N89, N97, N99, N120, N121, N122, N179, N200, N255, N300, N400, N880, N900, N999, N1019, N50000000, N100000000, N1000000000, N2147483647, N2147483648, e88, h, t1, t2, t3, e1, e2, if_pos c1, if_pos c2]
      · have em : mt σ b x1 x2 i = false := decide_eq_false (fun q => c2 q.2)
        rw [em, if_neg (show ¬ false = true by decide)] at ef
        rw [ef] at hf ⊢
        rw [← r_notes (x3 := x3) hc h he r (i + 1) n ((i : Int) + 1) (y + 3) (by omega) (by omega) (by omega) (by omega) hf, f_X7_notes_7]
        simp (disch := omega) only [gd_t, bd_s, nm_W, nm_I, I_add, I_sub, I_mul, I_neg, I_le_t, I_le_f, I_lt_t, I_lt_f, I_eq_t, I_eq_f, I_inb', I_ix', Int.toNat_natCast, decide_true, decide_false, Bool.not_false, Bool.not_true, if_true, if_false, wi_eq, wi_eq', wi_ne, wi_row, wi_2, N0, N1, N2, N3, N4, N5, N6, N7, N8, N9, N10, N11, N12, N13, N14, N15, N16, N17, N18, N19, N20, N21, N22, N23, N24, N25, N26, N27, N28, N29, N30, N31, N32, N33, N34, N35, N36, N37, N38, N39, N40, N41, N42, N43, N45, N48, N57, N59, N88, N89, N97, N99, N120, N121, N122, N179, N200, N255, N300, N400, N880, N900, N999, N1019, N50000000, N100000000, N1000000000, N2147483647, N2147483648, e88, h, t1, t2, e1, e2, if_pos c1, if_neg c2, f_X7_notes_60]
    · have em : mt σ b x1 x2 i = false := decide_eq_false (fun q => c1 q.1)
      rw [em, if_neg (show ¬ false = true by decide)] at ef
      rw [ef] at hf ⊢
      rw [← r_notes (x3 := x3) hc h he r (i + 1) n ((i : Int) + 1) (y + 3) (by omega) (by omega) (by omega) (by omega) hf, f_X7_notes_7]
      simp (disch := omega) only [gd_t, bd_s, nm_W, nm_I, I_add, I_sub, I_mul, I_neg, I_le_t, I_le_f, I_lt_t, I_lt_f, I_eq_t, I_eq_f, I_inb', I_ix', Int.toNat_natCast, decide_true, decide_false, Bool.not_false, Bool.not_true, if_true, if_false, wi_eq, wi_eq', wi_ne, wi_row, wi_2, N0, N1, N2, N3, N4, N5, N6, N7, N8, N9, N10, N11, N12, N13, N14, N15, N16, N17, N18, N19, N20, N21, N22, N23, N24, N25, N26, N27, N28, N29, N30, N31, N32, N33, N34, N35, N36, N37, N38, N39, N40, N41, N42, N43, N45, N48, N57, N59, N88, N89, N97, N99, N120, N121, N122, N179, N200, N255, N300, N400, N880, N900, N999, N1019, N50000000, N100000000, N1000000000, N2147483647, N2147483648, e88, h, t1, t2, e1, e2, if_neg c1, f_X7_notes_60]
theorem note_ok {b : Nat} {σ τ : Wd} {V v k : Nat} {d : MD} {x3 : Int32} (hd : MDok d V) (hv : v < V) (hk : k < d.lv v) (h : LR b σ τ V d) :
    ∃ σ' τ', f_X2_note b (I (v : Int)) (I (d.pr (6 * v + k))) x3 σ = some (0, σ') ∧ f_X7_notes (I (v : Int)) (I (d.pr (6 * v + k))) x3 τ = some (0, τ') ∧ LR b σ' τ' V d
      ∧ (∀ k, k < b ∨ b + 3 < k → σ'.1 k = σ.1 k) ∧ σ'.2 = σ.2 ∧ (∀ k, k ≠ 112 → τ'.1 k = τ.1 k) ∧ (∀ i, i < 88 → τ'.1 112 i = τ.1 112 i) ∧ τ'.2 = τ.2 := by
  obtain ⟨c, sl, hc, h1, h2, h3, h4⟩ := h
  have h5 := hd.1
  obtain ⟨-, -, -, -, l6, -⟩ := hd.2 v hv
  have ef := cFind (x1 := I (v : Int)) (x2 := I (d.pr (6 * v + k))) hc h1
  have he : ∀ i, i < c → τ.1 112 (89 + 3 * i) = σ.1 (b + 1) i ∧ τ.1 112 (90 + 3 * i) = σ.1 (b + 2) i := fun i hi => ⟨(h3 i hi).2.2.2.1, (h3 i hi).2.2.2.2.1⟩
  have hn30 : fi (mt σ b (I (v : Int)) (I (d.pr (6 * v + k)))) c 0 = none → c < 30 := by
    intro hn
    by_cases c30 : c < 30
    · exact c30
    · exfalso
      have c30 : c = 30 := by omega
      subst c30
      refine php 30 (fun i => if i < 30 then sl i else 6 * v + k) (fun i hi => ?_) (fun i j hi hj he => ?_)
      · show (if i < 30 then sl i else 6 * v + k) < 30
        split
        · rename_i q
          obtain ⟨⟨a1, a2⟩, -⟩ := h3 i q
          obtain ⟨-, -, -, -, l6', -⟩ := hd.2 (sl i / 6) a1
          omega
        · omega
      · have he : (if i < 30 then sl i else 6 * v + k) = (if j < 30 then sl j else 6 * v + k) := he
        have no : ∀ i, i < 30 → sl i ≠ 6 * v + k := by
          intro i q e
          have m := fi_none 30 0 hn i (by omega) (by omega)
          obtain ⟨-, a3, a4, -⟩ := h3 i q
          have : mt σ b (I (v : Int)) (I (d.pr (6 * v + k))) i = true := decide_eq_true ⟨by rw [a3, e, show (6 * v + k) / 6 = v from by omega], by rw [a4, e]⟩
          rw [this] at m
          cases m
        by_cases q1 : i < 30
        · by_cases q2 : j < 30
          · rw [if_pos q1, if_pos q2] at he
            exact h4 i j q1 q2 he
          · rw [if_pos q1, if_neg q2] at he
            exact absurd he (no i q1)
        · by_cases q2 : j < 30
          · rw [if_neg q1, if_pos q2] at he
            exact absurd he.symm (no j q2)
          · omega
  have er := r_notes (x3 := x3) hc h2 he c 0 FU 0 89 rfl (by omega) (by omega) (by show _ < 6000; omega) hn30
  have er : f_X7_notes (I (v : Int)) (I (d.pr (6 * v + k))) x3 τ = _ := er
  cases hf : fi (mt σ b (I (v : Int)) (I (d.pr (6 * v + k)))) c 0 with
  | some j =>
    obtain ⟨-, j2, j3⟩ := fi_some c 0 hf
    rw [hf] at ef er
    refine ⟨wi σ (b + 3) j (σ.1 (b + 3) j + x3), wi τ 112 (91 + 3 * j) (τ.1 112 (91 + 3 * j) + x3), ?_, er, ⟨c, sl, hc, ?_, ?_, fun i hi => ?_, h4⟩, fun k hk => wi_row (by omega), wi_2, fun k hk => wi_row hk, fun i hi => wi_ne (by omega), wi_2⟩
    · unfold f_X2_note
      simp (disch := omega) only [gd_t, bd_s, nm_W, nm_I, I_add, I_sub, I_mul, I_neg, I_le_t, I_le_f, I_lt_t, I_lt_f, I_eq_t, I_eq_f, I_inb', I_ix', Int.toNat_natCast, decide_true, decide_false, Bool.not_false, Bool.not_true, if_true, if_false, wi_eq, wi_eq', wi_ne, wi_row, wi_2, N0, N1, N2, N3, N4, N5, N6, N7, N8, N9, N10, N11, N12, N13, N14, N15, N16, N17, N18, N19, N20, N21, N22, N23, N24, N25, N26, N27, N28, N29, N30, N31, N32, N33, N34, N35, N36, N37, N38, N39, N40, N41, N42, N43, N45, N48, N57, N59, N88, N89, N97, N99, N120, N121, N122, N179, N200, N255, N300, N400, N880, N900, N999, N1019, N50000000, N100000000, N1000000000, N2147483647, N2147483648, ef, fo, f_X2_note_77]
    · rw [wi_row (by omega)]; exact h1
    · rw [wi_ne (by omega)]; exact h2
    · obtain ⟨a1, a2, a3, a4, a5, a6⟩ := h3 i hi
      rw [wi_row (show b + 1 ≠ b + 3 by omega), wi_row (show b + 2 ≠ b + 3 by omega), wi_ne (show 89 + 3 * i ≠ 91 + 3 * j by omega), wi_ne (show 90 + 3 * i ≠ 91 + 3 * j by omega)]
      refine ⟨a1, a2, a3, a4, a5, ?_⟩
      by_cases e : i = j
      · subst e
        rw [wi_eq, wi_eq, a6]
      · rw [wi_ne (by omega), wi_ne e, a6]
  | none =>
    have c30 := hn30 hf
    rw [hf] at ef er
    refine ⟨wi (wi (wi (wi σ (b + 1) c (I (v : Int))) (b + 2) c (I (d.pr (6 * v + k)))) (b + 3) c x3) b 0 (I ((c : Int) + 1)), _, ?_, er, ⟨c + 1, fun i => if i = c then 6 * v + k else sl i, by omega, ?_, ?_, fun i hi => ?_, fun i j hi hj he => ?_⟩, fun k hk => ?_, ?_, fun k hk => ?_, fun i hi => ?_, ?_⟩
    · unfold f_X2_note
      simp (disch := omega) only [gd_t, bd_s, nm_W, nm_I, I_add, I_sub, I_mul, I_neg, I_le_t, I_le_f, I_lt_t, I_lt_f, I_eq_t, I_eq_f, I_inb', I_ix', Int.toNat_natCast, decide_true, decide_false, Bool.not_false, Bool.not_true, if_true, if_false, wi_eq, wi_eq', wi_ne, wi_row, wi_2, N0, N1, N2, N3, N4, N5, N6, N7, N8, N9, N10, N11, N12, N13, N14, N15, N16, N17, N18, N19, N20, N21, N22, N23, N24, N25, N26, N27, N28, N29, N30, N31, N32, N33, N34, N35, N36, N37, N38, N39, N40, N41, N42, N43, N45, N48, N57, N59, N88, N89, N97, N99, N120, N121, N122, N179, N200, N255, N300, N400, N880, N900, N999, N1019, N50000000, N100000000, N1000000000, N2147483647, N2147483648, ef, fo, h1, f_X2_note_77]
    · rw [wi_eq]; rfl
    · rw [wi_eq]; rfl
    · by_cases e : i = c
      · have hs : (fun i => if i = c then 6 * v + k else sl i) i = 6 * v + k := if_pos e
        rw [hs, show (6 * v + k) / 6 = v from by omega, show (6 * v + k) % 6 = k from by omega]
        refine ⟨⟨hv, hk⟩, ?_, ?_, ?_, ?_, ?_⟩ <;> simp (disch := omega) only [wi_eq, wi_eq', wi_ne, wi_row, wi_2]
      · obtain ⟨a1, a2, a3, a4, a5, a6⟩ := h3 i (by omega)
        have hs : (fun i => if i = c then 6 * v + k else sl i) i = sl i := if_neg e
        rw [hs]
        refine ⟨a1, ?_, ?_, ?_, ?_, ?_⟩
        · simp (disch := omega) only [wi_eq, wi_eq', wi_ne, wi_row, wi_2]
          exact a2
        · simp (disch := omega) only [wi_eq, wi_eq', wi_ne, wi_row, wi_2]
          exact a3
        · simp (disch := omega) only [wi_eq, wi_eq', wi_ne, wi_row, wi_2]
          exact a4
        · simp (disch := omega) only [wi_eq, wi_eq', wi_ne, wi_row, wi_2]
          exact a5
        · simp (disch := omega) only [wi_eq, wi_eq', wi_ne, wi_row, wi_2]
          exact a6
    · have he : (if i = c then 6 * v + k else sl i) = (if j = c then 6 * v + k else sl j) := he
      have no : ∀ i, i < c → sl i ≠ 6 * v + k := by
        intro i q e
        have m := fi_none c 0 hf i (by omega) (by omega)
        obtain ⟨-, a3, a4, -⟩ := h3 i q
        have : mt σ b (I (v : Int)) (I (d.pr (6 * v + k))) i = true := decide_eq_true ⟨by rw [a3, e, show (6 * v + k) / 6 = v from by omega], by rw [a4, e]⟩
        rw [this] at m
        cases m
      by_cases q1 : i = c
      · by_cases q2 : j = c
        · omega
        · rw [if_pos q1, if_neg q2] at he
          exact absurd he.symm (no j (by omega))
      · by_cases q2 : j = c
        · rw [if_neg q1, if_pos q2] at he
          exact absurd he (no i (by omega))
        · rw [if_neg q1, if_neg q2] at he
          exact h4 i j (by omega) (by omega) he
    · rw [wi_row (by omega), wi_row (by omega), wi_row (by omega), wi_row (by omega)]
    · rw [wi_2, wi_2, wi_2, wi_2]
    · rw [wi_row hk, wi_row hk, wi_row hk, wi_row hk]
    · rw [wi_ne (by omega), wi_ne (by omega), wi_ne (by omega), wi_ne (by omega)]
    · rw [wi_2, wi_2, wi_2, wi_2]
