/-! PURE: the class' table of least costs -/
theorem c_init {m V M : Nat} {p but : Int} {d : MD} (hm : 10 < m) (hV : V ≤ 5) (hM : M ≤ 120) :
    ∀ (r u n : Nat) (z : Int) (σ : Wd), z = (u : Int) → r < n → u + r = M + 1 → σ.1 m 3 = I (V : Int) →
      (∀ w, w < u → σ.1 8 (121 * V + w) = I (enc 1000000000 (lcs d p but V 0 w))) →
      ∃ σ', f_X1_choose_12 m n (I (M : Int)) (I z) σ = f_X1_choose_59 m FU (I (M : Int)) (I ((V : Int) - 1)) σ'
        ∧ (∀ k, k ≠ 8 → σ'.1 k = σ.1 k) ∧ σ'.2 = σ.2
        ∧ (∀ w, w ≤ M → σ'.1 8 (121 * V + w) = I (enc 1000000000 (lcs d p but V 0 w)))
  | 0, u, n + 1, z, σ, hz, _, hu, h, hw => by
    refine ⟨σ, ?_, fun _ _ => rfl, rfl, fun w hw2 => hw w (by omega)⟩
    rw [f_X1_choose_12]
    simp (disch := omega) only [gd_t, bd_s, nm_W, nm_I, I_add, I_sub, I_mul, I_neg, I_le_t, I_le_f, I_lt_t, I_lt_f, I_eq_t, I_eq_f, I_inb', I_ix', Int.toNat_natCast, decide_true, decide_false, Bool.not_false, Bool.not_true, if_true, if_false, wi_eq, wi_eq', wi_ne, wi_row, wi_2, N0, N1, N2, N3, N4, N5, N6, N7, N8, N9, N10, N11, N12, N13, N14, N15, N16, N17, N18, N19, N20, N21, N22, N23, N24, N25, N26, N27, N28, N29, N30, N31, N32, N33, N34, N35, N36, N37, N38, N39, N40, N41, N42, N43, N45, N48, N57, N59, N88, N89, N97, N99, N120, N121, N122, N179, N200, N255, N300, N400, N880, N900, N999, N1019, N50000000, N100000000, N1000000000, N2147483647, N2147483648, h]
  | r + 1, u, n + 1, z, σ, hz, hn, hu, h, hw => by
    obtain ⟨σ', q1, q2, q3, q4⟩ := c_init (p := p) (but := but) (d := d) hm hV hM r (u + 1) n (z + 1) (wi σ 8 (121 * V + u) (I (enc 1000000000 (lcs d p but V 0 u)))) (by omega) (by omega) (by omega)
      (by rw [wi_row (by omega)]; exact h)
      (fun w hw2 => by
        by_cases c : w = u
        · subst c; rw [wi_eq]
        · rw [wi_ne (by omega)]; exact hw w (by omega))
    refine ⟨σ', ?_, fun k hk => by rw [q2 k hk, wi_row hk], q3, q4⟩
    have tz : ((V : Int) * 121 + z).toNat = 121 * V + u := by omega
    rw [← q1, f_X1_choose_12]
    by_cases c : u = 0
    · rw [show lcs d p but V 0 u = some 0 from by unfold lcs; rw [if_pos c]]
      simp (disch := omega) only [gd_t, bd_s, nm_W, nm_I, I_add, I_sub, I_mul, I_neg, I_le_t, I_le_f, I_lt_t, I_lt_f, I_eq_t, I_eq_f, I_inb', I_ix', Int.toNat_natCast, decide_true, decide_false, Bool.not_false, Bool.not_true, if_true, if_false, wi_eq, wi_eq', wi_ne, wi_row, wi_2, N0, N1, N2, N3, N4, N5, N6, N7, N8, N9, N10, N11, N12, N13, N14, N15, N16, N17, N18, N19, N20, N21, N22, N23, N24, N25, N26, N27, N28, N29, N30, N31, N32, N33, N34, N35, N36, N37, N38, N39, N40, N41, N42, N43, N45, N48, N57, N59, N88, N89, N97, N99, N120, N121, N122, N179, N200, N255, N300, N400, N880, N900, N999, N1019, N50000000, N100000000, N1000000000, N2147483647, N2147483648, h, f_X1_choose_44, tz, enc]
    · rw [show lcs d p but V 0 u = none from by unfold lcs; rw [if_neg c]]
      simp (disch := omega) only [gd_t, bd_s, nm_W, nm_I, I_add, I_sub, I_mul, I_neg, I_le_t, I_le_f, I_lt_t, I_lt_f, I_eq_t, I_eq_f, I_inb', I_ix', Int.toNat_natCast, decide_true, decide_false, Bool.not_false, Bool.not_true, if_true, if_false, wi_eq, wi_eq', wi_ne, wi_row, wi_2, N0, N1, N2, N3, N4, N5, N6, N7, N8, N9, N10, N11, N12, N13, N14, N15, N16, N17, N18, N19, N20, N21, N22, N23, N24, N25, N26, N27, N28, N29, N30, N31, N32, N33, N34, N35, N36, N37, N38, N39, N40, N41, N42, N43, N45, N48, N57, N59, N88, N89, N97, N99, N120, N121, N122, N179, N200, N255, N300, N400, N880, N900, N999, N1019, N50000000, N100000000, N1000000000, N2147483647, N2147483648, h, f_X1_choose_44, tz, enc]
/-- one number of the class' table -/
theorem c_lcs {σ : Wd} {V j u q : Nat} {p but : Int} {d : MD} (hd : MDok d V) (hj : j + 1 ≤ V) (hu : u ≤ q) (hq : q ≤ 120)
    (hr : ∀ w, w < V → σ.1 6 w = I (rm d p but q w : Int) ∧ ∀ a, a ≤ kx d p but w q → σ.1 7 (121 * w + a * (d.lo w).toNat) = I (cst d w ((a * (d.lo w).toNat : Nat) : Int)))
    (hg : ∀ w, w ≤ u → σ.1 8 (121 * (V - j) + w) = I (enc 1000000000 (lcs d p but V j w))) :
    f_X1_leastCostFrom (I ((V - (j + 1) : Nat) : Int)) (I (u : Int)) (I (d.lo (V - (j + 1)))) σ = some (I (enc 1000000000 (lcs d p but V (j + 1) u)), σ) := by
  have hv : V - (j + 1) < V := by omega
  obtain ⟨-, lb, -⟩ := hd.2 _ hv
  have h5 := hd.1
  have km := kx_min (p := p) (but := but) hd hv hu
  have rb := rm_le (p := p) (but := but) (q := q) hd hv
  have kq : kx d p but (V - (j + 1)) u ≤ kx d p but (V - (j + 1)) q := kx_mono hu
  have ku := kx_le (p := p) (but := but) (u := u) hd hv
  have key := lc1_ok (σ := σ) (v := V - (j + 1)) (u := u) (l := (d.lo (V - (j + 1))).toNat) (room := rm d p but q (V - (j + 1))) (c := fun i => cst d (V - (j + 1)) ((i * (d.lo (V - (j + 1))).toNat : Nat) : Int)) (g := fun i => lcs d p but V j (u - i * (d.lo (V - (j + 1))).toNat))
    (by omega) (by omega) (by omega) (by omega) (by omega) (hr _ hv).1
    (fun i hi => (hr _ hv).2 i (by rw [show min u (rm d p but q (V - (j + 1))) = min u (kx d p but (V - (j + 1)) q * (d.lo (V - (j + 1))).toNat) from rfl, km] at hi; omega))
    (fun i hi => by
      rw [show min u (rm d p but q (V - (j + 1))) = min u (kx d p but (V - (j + 1)) q * (d.lo (V - (j + 1))).toNat) from rfl, km] at hi
      have k2 : i * (d.lo (V - (j + 1))).toNat ≤ kx d p but (V - (j + 1)) u * (d.lo (V - (j + 1))).toNat := Nat.mul_le_mul_right _ hi
      have := cst_bnd (n := ((i * (d.lo (V - (j + 1))).toNat : Nat) : Int)) hd hv (by omega) (by omega)
      show -10000000 ≤ cst d (V - (j + 1)) ((i * (d.lo (V - (j + 1))).toNat : Nat) : Int) ∧ cst d (V - (j + 1)) ((i * (d.lo (V - (j + 1))).toNat : Nat) : Int) ≤ 10000000
      omega)
    (fun i hi => by
      rw [show min u (rm d p but q (V - (j + 1))) = min u (kx d p but (V - (j + 1)) q * (d.lo (V - (j + 1))).toNat) from rfl, km] at hi
      have k2 : i * (d.lo (V - (j + 1))).toNat ≤ kx d p but (V - (j + 1)) u * (d.lo (V - (j + 1))).toNat := Nat.mul_le_mul_right _ hi
      rw [show 121 * (V - (j + 1) + 1) + u - i * (d.lo (V - (j + 1))).toNat = 121 * (V - j) + (u - i * (d.lo (V - (j + 1))).toNat) from by omega]
      exact hg _ (by omega))
    (fun i hi => OB_mono (by omega) (lcs_OB hd j _ (by omega) (by omega)))
  rw [show min u (rm d p but q (V - (j + 1))) = min u (kx d p but (V - (j + 1)) q * (d.lo (V - (j + 1))).toNat) from rfl, km] at key
  rw [show (((d.lo (V - (j + 1))).toNat : Nat) : Int) = d.lo (V - (j + 1)) from by omega] at key
  exact key
/-- the rooms and costs that stand while the table is laid -/
def PR (d : MD) (p but : Int) (V q : Nat) (σ : Wd) : Prop := ∀ w, w < V → σ.1 6 w = I (rm d p but q w : Int) ∧ ∀ a, a ≤ kx d p but w q → σ.1 7 (121 * w + a * (d.lo w).toNat) = I (cst d w ((a * (d.lo w).toNat : Nat) : Int))
theorem PR_congr {d : MD} {p but : Int} {V q : Nat} {σ τ : Wd} (h : PR d p but V q σ) (e6 : τ.1 6 = σ.1 6) (e7 : τ.1 7 = σ.1 7) : PR d p but V q τ := by
  unfold PR at h ⊢
  rw [e6, e7]
  exact h
theorem c_row {m V j q M : Nat} {p but : Int} {d : MD} {k59 : Int32 → Int32 → Wd → Option (Int32 × Wd)} (hm : 10 < m) (hd : MDok d V) (hj : j + 1 ≤ V) (hq : q ≤ 120) (hM : M ≤ q) :
    ∀ (r u n : Nat) (z : Int) (σ : Wd), z = (u : Int) → r < n → u + r = M + 1 → CV m σ V d → PR d p but V q σ →
      (∀ w, w ≤ M → σ.1 8 (121 * (V - j) + w) = I (enc 1000000000 (lcs d p but V j w))) →
      (∀ w, w < u → σ.1 8 (121 * (V - (j + 1)) + w) = I (enc 1000000000 (lcs d p but V (j + 1) w))) →
      ∃ σ', f_X1_choose_67 m k59 n (I (M : Int)) (I ((V - (j + 1) : Nat) : Int)) (I z) σ = k59 (I (M : Int)) (I ((V : Int) - ((j + 1 : Nat) : Int) - 1)) σ'
        ∧ (∀ k, k ≠ 8 → σ'.1 k = σ.1 k) ∧ σ'.2 = σ.2 ∧ (∀ i, 121 * (V - j) ≤ i → σ'.1 8 i = σ.1 8 i)
        ∧ (∀ w, w ≤ M → σ'.1 8 (121 * (V - (j + 1)) + w) = I (enc 1000000000 (lcs d p but V (j + 1) w)))
  | 0, u, n + 1, z, σ, hz, _, hu, h, hr, hg, hw => by
    have h5 := hd.1
    refine ⟨σ, ?_, fun _ _ => rfl, rfl, fun _ _ => rfl, fun w hw2 => hw w (by omega)⟩
    rw [f_X1_choose_67]
    simp (disch := omega) only [gd_t, bd_s, nm_W, nm_I, I_add, I_sub, I_mul, I_neg, I_le_t, I_le_f, I_lt_t, I_lt_f, I_eq_t, I_eq_f, I_inb', I_ix', Int.toNat_natCast, decide_true, decide_false, Bool.not_false, Bool.not_true, if_true, if_false, wi_eq, wi_eq', wi_ne, wi_row, wi_2, N0, N1, N2, N3, N4, N5, N6, N7, N8, N9, N10, N11, N12, N13, N14, N15, N16, N17, N18, N19, N20, N21, N22, N23, N24, N25, N26, N27, N28, N29, N30, N31, N32, N33, N34, N35, N36, N37, N38, N39, N40, N41, N42, N43, N45, N48, N57, N59, N88, N89, N97, N99, N120, N121, N122, N179, N200, N255, N300, N400, N880, N900, N999, N1019, N50000000, N100000000, N1000000000, N2147483647, N2147483648]
    congr 2
    omega
  | r + 1, u, n + 1, z, σ, hz, hn, hu, h, hr, hg, hw => by
    have h5 := hd.1
    have hv : V - (j + 1) < V := by omega
    have e := c_lcs hd hj (show u ≤ q by omega) hq hr (fun w hw => hg w (by omega))
    rw [← hz] at e
    obtain ⟨σ', q1, q2, q3, q4, q5⟩ := c_row (k59 := k59) hm hd hj hq hM r (u + 1) n (z + 1) (wi σ 8 (121 * (V - (j + 1)) + u) (I (enc 1000000000 (lcs d p but V (j + 1) u)))) (by omega) (by omega) (by omega)
      (CV_congr h (fun k hk => wi_row (by omega))) (PR_congr hr (wi_row (by decide)) (wi_row (by decide)))
      (fun w hw2 => by rw [wi_ne (by omega)]; exact hg w hw2)
      (fun w hw2 => by
        by_cases c : w = u
        · subst c; rw [wi_eq]
        · rw [wi_ne (by omega)]; exact hw w (by omega))
    refine ⟨σ', ?_, fun k hk => by rw [q2 k hk, wi_row hk], q3, fun i hi => by rw [q4 i hi, wi_ne (by omega)], q5⟩
    have tz : (((V - (j + 1) : Nat) : Int) * 121 + z).toNat = 121 * (V - (j + 1)) + u := by omega
    rw [← q1, f_X1_choose_67]
    simp (disch := omega) only [gd_t, bd_s, nm_W, nm_I, I_add, I_sub, I_mul, I_neg, I_le_t, I_le_f, I_lt_t, I_lt_f, I_eq_t, I_eq_f, I_inb', I_ix', Int.toNat_natCast, decide_true, decide_false, Bool.not_false, Bool.not_true, if_true, if_false, wi_eq, wi_eq', wi_ne, wi_row, wi_2, N0, N1, N2, N3, N4, N5, N6, N7, N8, N9, N10, N11, N12, N13, N14, N15, N16, N17, N18, N19, N20, N21, N22, N23, N24, N25, N26, N27, N28, N29, N30, N31, N32, N33, N34, N35, N36, N37, N38, N39, N40, N41, N42, N43, N45, N48, N57, N59, N88, N89, N97, N99, N120, N121, N122, N179, N200, N255, N300, N400, N880, N900, N999, N1019, N50000000, N100000000, N1000000000, N2147483647, N2147483648, cLot h hd hv, e, tz]
/-- what stands behind the table: most units, their cost, the shares -/
def c_end (m : Nat) (x4 : Int32) (σ : Wd) : Option (Int32 × Wd) := bd (f_X1_mostUnits 8 726 x4 σ) fun r1 σ2 => nmW (wi σ2 4 0 r1) fun σ3 => gd (inb (σ3.1 4 0) 726) (nmW (wi σ3 4 1 (σ3.1 8 (ix (σ3.1 4 0)))) fun σ4 => bd (f_X1_deal m σ4) fun _ σ5 => some (0, σ5))
theorem c_rows {m V q M : Nat} {p but : Int} {d : MD} (hm : 10 < m) (hd : MDok d V) (hq : q ≤ 120) (hM : M ≤ q) :
    ∀ (r j n : Nat) (z : Int) (σ : Wd), z = (V : Int) - (j : Int) - 1 → r < n → j + r = V → CV m σ V d → PR d p but V q σ →
      (∀ i, i ≤ j → ∀ w, w ≤ M → σ.1 8 (121 * (V - i) + w) = I (enc 1000000000 (lcs d p but V i w))) →
      ∃ σ', f_X1_choose_59 m n (I (M : Int)) (I z) σ = c_end m (I (M : Int)) σ'
        ∧ (∀ k, k ≠ 8 → σ'.1 k = σ.1 k) ∧ σ'.2 = σ.2
        ∧ (∀ i, i ≤ V → ∀ w, w ≤ M → σ'.1 8 (121 * (V - i) + w) = I (enc 1000000000 (lcs d p but V i w)))
  | 0, j, n + 1, z, σ, hz, _, hj, h, hr, hg => by
    have hj : j = V := by omega
    subst hj
    refine ⟨σ, ?_, fun _ _ => rfl, rfl, hg⟩
    have e : I z < 0 := by
      show I z < I 0
      rw [I_lt (by unfold R; omega) (by unfold R; omega)]; omega
    rw [f_X1_choose_59]
    dsimp only
    rw [if_pos e]
    rfl
  | r + 1, j, n + 1, z, σ, hz, hn, hj, h, hr, hg => by
    have h5 := hd.1
    obtain ⟨τ, t1, t2, t3, t4, t5⟩ := c_row (k59 := f_X1_choose_59 m n) hm hd (show j + 1 ≤ V by omega) hq hM (M + 1) 0 FU 0 σ rfl (by show _ < 6000; omega) (by omega) h hr (hg j (Nat.le_refl _)) (fun w hw => absurd hw (by omega))
    obtain ⟨σ', q1, q2, q3, q4⟩ := c_rows hm hd hq hM r (j + 1) n _ τ rfl (by omega) (by omega)
      (CV_congr h (fun k hk => t2 k (by omega))) (PR_congr hr (t2 6 (by decide)) (t2 7 (by decide)))
      (fun i hi w hw => by
        by_cases c : i = j + 1
        · subst c; exact t5 w hw
        · rw [t4 _ (by omega)]
          exact hg i (by omega) w hw)
    refine ⟨σ', ?_, fun k hk => by rw [q2 k hk, t2 k hk], by rw [q3, t3], q4⟩
    have e : ¬ I z < 0 := by
      show ¬ I z < I 0
      rw [I_lt (by unfold R; omega) (by unfold R; omega)]; omega
    rw [← q1, ← t1, f_X1_choose_59]
    dsimp only
    rw [if_neg e, show z = ((V - (j + 1) : Nat) : Int) from by omega]
    rfl
