section
/-! PURE: the reference's best split, whole; helpers for the class' -/
theorem rBest {V q : Nat} {p but : Int} {d : MD} {σ : Wd} (hd : MDok d V) (hp : R p) (hb : R but) (hq : q ≤ 120) (h : RV σ V d) (hl : σ.1 102 12 = I p) :
    ∃ σ', f_X7_laysBest (I (q : Int)) (I but) σ = some (0, σ') ∧ σ'.1 102 37 = I (bu (lcs d p but V V) q : Int)
      ∧ σ'.1 102 38 = I (enc 100000000 (lcs d p but V V (bu (lcs d p but V V) q)))
      ∧ (∀ v, v < V → σ'.1 117 v = I (shs d p but V V (bu (lcs d p but V V) q) v : Int))
      ∧ (∀ k, k ≠ 102 → k ≠ 116 → k ≠ 117 → σ'.1 k = σ.1 k) ∧ (∀ i, i ≠ 37 → i ≠ 38 → σ'.1 102 i = σ.1 102 i) ∧ σ'.2 = σ.2 := by
  have h5 := hd.1
  obtain ⟨s1, a1, a2, a3, a4⟩ := r_init (p := p) (but := but) (d := d) (x1 := I (q : Int)) (x2 := I but) hd.1 121 0 FU σ (by decide) rfl h.1 (fun w hw => absurd hw (by omega))
  obtain ⟨s2, b1, b2, b3, b4⟩ := r_rows (x1 := I (q : Int)) hd hp hb V 0 FU s1 (by show V < 6000; omega) (by omega)
    (RV_congr h (by rw [a2 102 (by decide)]) (a2 103 (by decide)) (a2 104 (by decide)) (a2 112 (by decide))) (by rw [a2 102 (by decide)]; exact hl)
    (fun i hi w hw => by
      have : i = 0 := by omega
      subst this
      exact a4 w hw)
  obtain ⟨s3, c1, c2, c3, c4, c5, c6⟩ := r_best (x2 := I but) (p := p) (but := but) hd q FU (wi s2 102 37 (I (q : Int))) (by show q < 6000; omega) hq wi_eq
    (fun w hw => by
      have := b4 V (Nat.le_refl _) w hw
      rw [show 121 * (V - V) + w = w from by omega] at this
      rw [wi_row (by decide)]
      exact this)
  have r2 : ∀ k, k ≠ 116 → s2.1 k = σ.1 k := fun k hk => by rw [b2 k hk, a2 k hk]
  have f102 : ∀ i, i ≠ 37 → i ≠ 38 → s3.1 102 i = σ.1 102 i := fun i h1 h2 => by rw [c5 i h1 h2, wi_ne h1, r2 102 (by decide)]
  have fr : ∀ k, k ≠ 102 → k ≠ 116 → s3.1 k = σ.1 k := fun k h1 h2 => by rw [c4 k h1, wi_row h1, r2 k h2]
  obtain ⟨s4, d1, d2, d3, d4, d5⟩ := r_shares hd hp hb V FU (bu (lcs d p but V V) q) s3 (by show V < 6000; omega) (Nat.le_refl _) (Nat.le_trans (bu_le q) hq) (bu_some (by rw [lcs_0]; exact fun h => by cases h) q)
    (RV_congr h (f102 14 (by decide) (by decide)) (fr 103 (by decide) (by decide)) (fr 104 (by decide) (by decide)) (fr 112 (by decide) (by decide))) (by rw [f102 12 (by decide) (by decide)]; exact hl)
    (fun i hi w hw => by rw [c4 116 (by decide), wi_row (by decide)]; exact b4 i hi w hw)
  refine ⟨s4, ?_, by rw [d2 102 (by decide)]; exact c2, by rw [d2 102 (by decide)]; exact c3, fun v hv => d4 v (by omega) hv, fun k h1 h2 h3 => by rw [d2 k h3, fr k h1 h2], fun i h1 h2 => by rw [d2 102 (by decide), f102 i h1 h2], by rw [d3, c6, wi_2, b3, a3]⟩
  show f_X7_laysBest_2 FU (I (q : Int)) (I but) (I ((0 : Nat) : Int)) σ = _
  rw [a1, show ((V : Int) - 1) = (V : Int) - ((0 : Nat) : Int) - 1 from by omega, b1, c1]
  unfold f_X7_laysShares
  rw [c2, show (0 : Int32) = I ((V - V : Nat) : Int) from by rw [Nat.sub_self]; rfl, d1]
  rfl
theorem CV_congr {m : Nat} {σ τ : Wd} {V : Nat} {d : MD} (h : CV m σ V d) (e : ∀ k, m ≤ k → τ.1 k = σ.1 k) : CV m τ V d := by
  unfold CV at h ⊢
  rw [e m (by omega), e (m + 1) (by omega), e (m + 2) (by omega), e (m + 3) (by omega), e (m + 4) (by omega), e (m + 6) (by omega), e (m + 8) (by omega), e (m + 9) (by omega)]
  exact h
theorem kx_mono {d : MD} {p but : Int} {v u q : Nat} (h : u ≤ q) : kx d p but v u ≤ kx d p but v q := by
  unfold kx
  split
  · exact Nat.le_refl _
  · exact Nat.div_le_div_right (by omega)
theorem kx_min {d : MD} {V v u q : Nat} {p but : Int} (hd : MDok d V) (hv : v < V) (h : u ≤ q) : min u (kx d p but v q * (d.lo v).toNat) / (d.lo v).toNat = kx d p but v u := by
  obtain ⟨-, lb, -⟩ := hd.2 v hv
  obtain ⟨l, hl⟩ : ∃ l, l = (d.lo v).toNat := ⟨_, rfl⟩
  have l1 : 1 ≤ l := by omega
  unfold kx
  rw [← hl]
  by_cases c : (v : Int) = but
  · rw [if_pos c, if_pos c, Nat.zero_mul, show min u 0 = 0 from by omega, Nat.zero_div]
  · rw [if_neg c, if_neg c]
    obtain ⟨D, hD⟩ : ∃ D, D = (dep d p v).toNat := ⟨_, rfl⟩
    rw [← hD]
    obtain ⟨k1, k2⟩ := div_box (M := min q D) l1
    by_cases c2 : u ≤ min q D / l * l
    · rw [show min u (min q D / l * l) = u from by omega, show min u D = u from by omega]
    · rw [show min u (min q D / l * l) = min q D / l * l from by omega, Nat.mul_div_cancel _ (by omega)]
      symm
      exact Nat.div_eq_of_lt_le (by omega) (by rw [Nat.succ_mul]; omega)
/-- room of a venue, for q units -/
def rm (d : MD) (p but : Int) (q v : Nat) : Nat := kx d p but v q * (d.lo v).toNat
theorem rm_le {d : MD} {V v q : Nat} {p but : Int} (hd : MDok d V) (hv : v < V) : rm d p but q v ≤ q := kx_le hd hv
/-- the rooms of r venues from v on -/
def srm (d : MD) (p but : Int) (q : Nat) : Nat → Nat → Nat
  | 0, _ => 0
  | r + 1, v => rm d p but q v + srm d p but q r (v + 1)
theorem lcs_srm {d : MD} {V q : Nat} {p but : Int} (hd : MDok d V) : ∀ (j u : Nat), j ≤ V → u ≤ q → lcs d p but V j u ≠ none → u ≤ srm d p but q j (V - j)
  | 0, u, _, _, h => by
    unfold lcs at h
    by_cases c : u = 0
    · omega
    · rw [if_neg c] at h
      exact absurd rfl h
  | j + 1, u, hj, hu, h => by
    obtain ⟨y, hy⟩ := Option.ne_none_iff_exists'.mp h
    obtain ⟨i, h1, h2⟩ := mnf_at (show mnf _ _ = some y from hy)
    have hv : V - (j + 1) < V := by omega
    have s : lcs d p but V j (u - i * (d.lo (V - (j + 1))).toNat) ≠ none := by
      intro c
      have h2 : oadd _ (lcs d p but V j (u - i * (d.lo (V - (j + 1))).toNat)) = some y := h2
      rw [c] at h2
      cases h2
    have ih := lcs_srm (q := q) hd j _ (by omega) (by omega) s
    have k := kx_le (p := p) (but := but) (u := u) hd hv
    have k2 : i * (d.lo (V - (j + 1))).toNat ≤ kx d p but (V - (j + 1)) q * (d.lo (V - (j + 1))).toNat := Nat.mul_le_mul_right _ (Nat.le_trans h1 (kx_mono hu))
    unfold srm rm
    rw [show V - (j + 1) + 1 = V - j from by omega]
    omega
theorem bu_cut {f : Nat → Option Int} {M : Nat} : ∀ (q : Nat), M ≤ q → (∀ u, M < u → u ≤ q → f u = none) → bu f q = bu f M
  | 0, h, _ => by rw [show M = 0 from by omega]
  | q + 1, h, hn => by
    by_cases c : M = q + 1
    · rw [c]
    · rw [bu, if_pos (hn (q + 1) (by omega) (Nat.le_refl _))]
      exact bu_cut q (by omega) (fun u h1 h2 => hn u h1 (by omega))
end
section
/-! PURE: the class' rooms and costs for a split of q -/
theorem c_prep1 {m V v l K : Nat} {d : MD} {k6 : Int32 → Int32 → Int32 → Int32 → Wd → Option (Int32 × Wd)} {x2 x3 x4 : Int32} (hm : 10 < m) (hd : MDok d V) (hv : v < V) (hl : d.lo v = (l : Int)) (hK : K * l ≤ 120) :
    ∀ (r i n : Nat) (z : Int) (σ : Wd), z = ((i * l : Nat) : Int) → r < n → i + r = K + 1 → CV m σ V d → σ.1 6 v = I ((K * l : Nat) : Int) →
      (∀ a, a < i → σ.1 7 (121 * v + a * l) = I (cst d v ((a * l : Nat) : Int))) →
      ∃ σ', f_X1_prepare_62 m k6 n x2 x3 x4 (I (v : Int)) (I (l : Int)) (I z) σ = k6 x2 x3 x4 (I ((v : Int) + 1)) σ'
        ∧ (∀ k, k ≠ 7 → σ'.1 k = σ.1 k) ∧ σ'.2 = σ.2 ∧ (∀ i, i < 121 * v → σ'.1 7 i = σ.1 7 i)
        ∧ (∀ a, a ≤ K → σ'.1 7 (121 * v + a * l) = I (cst d v ((a * l : Nat) : Int)))
  | 0, i, n + 1, z, σ, hz, _, hi, h, h6, h7 => by
    have v5 : v < 5 := Nat.lt_of_lt_of_le hv hd.1
    obtain ⟨-, lb, -⟩ := hd.2 v hv
    have hi : i = K + 1 := by omega
    subst hi
    have e : (K + 1) * l = K * l + l := Nat.succ_mul K l
    refine ⟨σ, ?_, fun _ _ => rfl, rfl, fun _ _ => rfl, fun a ha => h7 a (by omega)⟩
    rw [f_X1_prepare_62]
    simp (disch := omega) only [↓reduceIte, gd_t, bd_s, nm_W, nm_I, I_add, I_sub, I_mul, I_neg, I_le_t, I_le_f, I_lt_t, I_lt_f, I_eq_t, I_eq_f, I_inb', I_ix', Int.toNat_natCast, decide_true, decide_false, Bool.not_false, Bool.not_true, if_true, if_false, wi_eq, wi_eq', wi_ne, wi_row, wi_2, N0, N1, N2, N3, N4, N5, N6, N7, N8, N9, N10, N11, N12, N13, N14, N15, N16, N17, N18, N19, N20, N21, N22, N23, N24, N25, N26, N27, N28, N29, N30, N31, N32, N33, N34, N35, N36, N37, N38, N39, N40, N41, N42, N43, N45, N48, N57, N59, N88, N89, N97, N99, N120, N121, N122, N179, N200, N255, N300, N400, N880, N900, N999, N1019, N50000000, N100000000, N1000000000, N2147483647, N2147483648, h6]
  | r + 1, i, n + 1, z, σ, hz, hn, hi, h, h6, h7 => by
    have v5 : v < 5 := Nat.lt_of_lt_of_le hv hd.1
    obtain ⟨-, lb, -⟩ := hd.2 v hv
    have hiK : i ≤ K := by omega
    have m1 : i * l ≤ K * l := Nat.mul_le_mul_right l hiK
    have e : (i + 1) * l = i * l + l := Nat.succ_mul i l
    have tz : ((v : Int) * 121 + z).toNat = 121 * v + i * l := by omega
    have ec := cCost h hd hv (n := z) (by omega) (by omega)
    obtain ⟨σ', q1, q2, q3, q4, q5⟩ := c_prep1 (k6 := k6) (x2 := x2) (x3 := x3) (x4 := x4) hm hd hv hl hK r (i + 1) n (z + l) (wi σ 7 (121 * v + i * l) (I (cst d v z))) (by omega) (by omega) (by omega)
      (CV_congr h (fun k hk => wi_row (by omega))) (by rw [wi_row (by decide)]; exact h6)
      (fun a ha => by
        by_cases c : a = i
        · subst c; rw [wi_eq, hz]
        · have : a * l + l ≤ i * l := by rw [← Nat.succ_mul]; exact Nat.mul_le_mul_right l (by omega)
          rw [wi_ne (by omega)]; exact h7 a (by omega))
    refine ⟨σ', ?_, fun k hk => by rw [q2 k hk, wi_row hk], by rw [q3, wi_2], fun i' hi' => by rw [q4 i' hi', wi_ne (by omega)], q5⟩
    rw [← q1, f_X1_prepare_62]
    simp (disch := omega) only [↓reduceIte, gd_t, bd_s, nm_W, nm_I, I_add, I_sub, I_mul, I_neg, I_le_t, I_le_f, I_lt_t, I_lt_f, I_eq_t, I_eq_f, I_inb', I_ix', Int.toNat_natCast, decide_true, decide_false, Bool.not_false, Bool.not_true, if_true, if_false, wi_eq, wi_eq', wi_ne, wi_row, wi_2, N0, N1, N2, N3, N4, N5, N6, N7, N8, N9, N10, N11, N12, N13, N14, N15, N16, N17, N18, N19, N20, N21, N22, N23, N24, N25, N26, N27, N28, N29, N30, N31, N32, N33, N34, N35, N36, N37, N38, N39, N40, N41, N42, N43, N45, N48, N57, N59, N88, N89, N97, N99, N120, N121, N122, N179, N200, N255, N300, N400, N880, N900, N999, N1019, N50000000, N100000000, N1000000000, N2147483647, N2147483648, h6, ec, tz]
theorem c_prep {m V q : Nat} {p but : Int} {d : MD} (hm : 10 < m) (hd : MDok d V) (hp : R p) (hb : R but) (hq : q ≤ 120) :
    ∀ (r v n acc : Nat) (σ : Wd), r < n → v + r = V → acc ≤ 120 * v → CV m σ V d → σ.1 m 1 = I p →
      (∀ w, w < v → σ.1 6 w = I (rm d p but q w : Int) ∧ ∀ a, a ≤ kx d p but w q → σ.1 7 (121 * w + a * (d.lo w).toNat) = I (cst d w ((a * (d.lo w).toNat : Nat) : Int))) →
      ∃ σ', f_X1_prepare_6 m n (I (q : Int)) (I but) (I (acc : Int)) (I (v : Int)) σ = some (I ((min q (acc + srm d p but q r v) : Nat) : Int), σ')
        ∧ (∀ k, k ≠ 6 → k ≠ 7 → σ'.1 k = σ.1 k) ∧ σ'.2 = σ.2
        ∧ (∀ w, w < V → σ'.1 6 w = I (rm d p but q w : Int) ∧ ∀ a, a ≤ kx d p but w q → σ'.1 7 (121 * w + a * (d.lo w).toNat) = I (cst d w ((a * (d.lo w).toNat : Nat) : Int)))
  | 0, v, n + 1, acc, σ, _, hv, ha, h, hl, hw => by
    have h5 := hd.1
    refine ⟨σ, ?_, fun _ _ _ => rfl, rfl, fun w h1 => hw w (by omega)⟩
    rw [f_X1_prepare_6]
    by_cases c : q ≤ acc
    · simp (disch := omega) only [↓reduceIte, gd_t, bd_s, nm_W, nm_I, I_add, I_sub, I_mul, I_neg, I_le_t, I_le_f, I_lt_t, I_lt_f, I_eq_t, I_eq_f, I_inb', I_ix', Int.toNat_natCast, decide_true, decide_false, Bool.not_false, Bool.not_true, if_true, if_false, wi_eq, wi_eq', wi_ne, wi_row, wi_2, N0, N1, N2, N3, N4, N5, N6, N7, N8, N9, N10, N11, N12, N13, N14, N15, N16, N17, N18, N19, N20, N21, N22, N23, N24, N25, N26, N27, N28, N29, N30, N31, N32, N33, N34, N35, N36, N37, N38, N39, N40, N41, N42, N43, N45, N48, N57, N59, N88, N89, N97, N99, N120, N121, N122, N179, N200, N255, N300, N400, N880, N900, N999, N1019, N50000000, N100000000, N1000000000, N2147483647, N2147483648, h.1, f_X1_prepare_123, srm]
      rw [show min q (acc + 0) = q from by omega]
    · simp (disch := omega) only [↓reduceIte, gd_t, bd_s, nm_W, nm_I, I_add, I_sub, I_mul, I_neg, I_le_t, I_le_f, I_lt_t, I_lt_f, I_eq_t, I_eq_f, I_inb', I_ix', Int.toNat_natCast, decide_true, decide_false, Bool.not_false, Bool.not_true, if_true, if_false, wi_eq, wi_eq', wi_ne, wi_row, wi_2, N0, N1, N2, N3, N4, N5, N6, N7, N8, N9, N10, N11, N12, N13, N14, N15, N16, N17, N18, N19, N20, N21, N22, N23, N24, N25, N26, N27, N28, N29, N30, N31, N32, N33, N34, N35, N36, N37, N38, N39, N40, N41, N42, N43, N45, N48, N57, N59, N88, N89, N97, N99, N120, N121, N122, N179, N200, N255, N300, N400, N880, N900, N999, N1019, N50000000, N100000000, N1000000000, N2147483647, N2147483648, h.1, f_X1_prepare_123, srm]
      rw [show min q (acc + 0) = acc from by omega]
  | r + 1, v, n + 1, acc, σ, hn, hv, ha, h, hl, hw => by
    have h5 := hd.1
    have hvV : v < V := by omega
    obtain ⟨-, lb, -⟩ := hd.2 v hvV
    have rb := rm_le (p := p) (but := but) (q := q) hd hvV
    have key : ∀ k6, ∃ σ', f_X1_prepare_38 m k6 (I (q : Int)) (I but) (I (acc : Int)) (I (v : Int)) (I (v : Int)) (I (rm d p but q v : Int)) σ = k6 (I (q : Int)) (I but) (I ((acc + rm d p but q v : Nat) : Int)) (I ((v + 1 : Nat) : Int)) σ'
        ∧ (∀ k, k ≠ 6 → k ≠ 7 → σ'.1 k = σ.1 k) ∧ σ'.2 = σ.2 ∧ (∀ i, i < 121 * v → σ'.1 7 i = σ.1 7 i) ∧ (∀ i, i ≠ v → σ'.1 6 i = σ.1 6 i) ∧ σ'.1 6 v = I (rm d p but q v : Int)
        ∧ (∀ a, a ≤ kx d p but v q → σ'.1 7 (121 * v + a * (d.lo v).toNat) = I (cst d v ((a * (d.lo v).toNat : Nat) : Int))) := by
      intro k6
      have hc : CV m (wi σ 6 v (I (rm d p but q v : Int))) V d := CV_congr h (fun k hk => wi_row (by omega))
      obtain ⟨σ', q1, q2, q3, q4, q5⟩ := c_prep1 (k6 := k6) (x2 := I (q : Int)) (x3 := I but) (x4 := I ((acc + rm d p but q v : Nat) : Int)) (l := (d.lo v).toNat) (K := kx d p but v q) hm hd hvV (by omega) (Nat.le_trans rb hq) (kx d p but v q + 1) 0 FU 0 (wi σ 6 v (I (rm d p but q v : Int)))
        (by rw [Nat.zero_mul]; rfl) (by show _ < 6000; have : kx d p but v q ≤ kx d p but v q * (d.lo v).toNat := Nat.le_mul_of_pos_right _ (by omega); have : kx d p but v q * (d.lo v).toNat ≤ q := rb; omega) (by omega) hc wi_eq (fun a ha => absurd ha (by omega))
      refine ⟨σ', ?_, fun k h1 h2 => by rw [q2 k h2, wi_row h1], by rw [q3, wi_2], fun i hi => by rw [q4 i hi, wi_row (by decide)], fun i hi => by rw [q2 6 (by decide), wi_ne hi], by rw [q2 6 (by decide), wi_eq], q5⟩
      rw [show (((v + 1 : Nat) : Int)) = (v : Int) + 1 from rfl, ← q1]
      unfold f_X1_prepare_38
      simp (disch := omega) only [↓reduceIte, gd_t, bd_s, nm_W, nm_I, I_add, I_sub, I_mul, I_neg, I_le_t, I_le_f, I_lt_t, I_lt_f, I_eq_t, I_eq_f, I_inb', I_ix', Int.toNat_natCast, decide_true, decide_false, Bool.not_false, Bool.not_true, if_true, if_false, wi_eq, wi_eq', wi_ne, wi_row, wi_2, N0, N1, N2, N3, N4, N5, N6, N7, N8, N9, N10, N11, N12, N13, N14, N15, N16, N17, N18, N19, N20, N21, N22, N23, N24, N25, N26, N27, N28, N29, N30, N31, N32, N33, N34, N35, N36, N37, N38, N39, N40, N41, N42, N43, N45, N48, N57, N59, N88, N89, N97, N99, N120, N121, N122, N179, N200, N255, N300, N400, N880, N900, N999, N1019, N50000000, N100000000, N1000000000, N2147483647, N2147483648, cLot hc hd hvV]
      rw [show (((acc + rm d p but q v : Nat) : Int)) = (acc : Int) + (rm d p but q v : Int) from by omega, show (((d.lo v).toNat : Nat) : Int) = d.lo v from by omega]
    obtain ⟨τ, t1, t2, t3, t4, t5, t6, t7⟩ := key (f_X1_prepare_6 m n)
    obtain ⟨σ', q1, q2, q3, q4⟩ := c_prep (p := p) (but := but) hm hd hp hb hq r (v + 1) n (acc + rm d p but q v) τ (by omega) (by omega) (by omega)
      (CV_congr h (fun k hk => t2 k (by omega) (by omega))) (by rw [t2 m (by omega) (by omega)]; exact hl)
      (fun w hw2 => by
        by_cases c : w = v
        · subst c; exact ⟨t6, t7⟩
        · obtain ⟨g1, g2⟩ := hw w (by omega)
          refine ⟨by rw [t5 w c]; exact g1, fun a ha => ?_⟩
          have hwV : w < V := by omega
          have k1 := rm_le (p := p) (but := but) (q := q) hd hwV
          have k2 : a * (d.lo w).toNat ≤ rm d p but q w := Nat.mul_le_mul_right _ ha
          rw [t4 _ (by omega)]
          exact g2 a ha)
    refine ⟨σ', ?_, fun k h1 h2 => by rw [q2 k h1 h2, t2 k h1 h2], by rw [q3, t3], q4⟩
    rw [show acc + srm d p but q (r + 1) v = acc + rm d p but q v + srm d p but q r (v + 1) from by rw [srm, Nat.add_assoc], ← q1, ← t1, f_X1_prepare_6]
    have er := kx_whl (u := q) (p := p) (but := but) hd hvV
    unfold R at hb
    by_cases c : (v : Int) = but
    · rw [if_pos c] at er
      simp (disch := omega) only [↓reduceIte, gd_t, bd_s, nm_W, nm_I, I_add, I_sub, I_mul, I_neg, I_le_t, I_le_f, I_lt_t, I_lt_f, I_eq_t, I_eq_f, I_inb', I_ix', Int.toNat_natCast, decide_true, decide_false, Bool.not_false, Bool.not_true, if_true, if_false, wi_eq, wi_eq', wi_ne, wi_row, wi_2, N0, N1, N2, N3, N4, N5, N6, N7, N8, N9, N10, N11, N12, N13, N14, N15, N16, N17, N18, N19, N20, N21, N22, N23, N24, N25, N26, N27, N28, N29, N30, N31, N32, N33, N34, N35, N36, N37, N38, N39, N40, N41, N42, N43, N45, N48, N57, N59, N88, N89, N97, N99, N120, N121, N122, N179, N200, N255, N300, N400, N880, N900, N999, N1019, N50000000, N100000000, N1000000000, N2147483647, N2147483648, h.1]
      rw [show rm d p but q v = 0 from by unfold rm; omega]
      rfl
    · rw [if_neg c] at er
      have e2 := cWhole h hd hvV hp hl (q := (q : Int)) (by omega) (by omega)
      rw [er] at e2
      simp (disch := omega) only [↓reduceIte, gd_t, bd_s, nm_W, nm_I, I_add, I_sub, I_mul, I_neg, I_le_t, I_le_f, I_lt_t, I_lt_f, I_eq_t, I_eq_f, I_inb', I_ix', Int.toNat_natCast, decide_true, decide_false, Bool.not_false, Bool.not_true, if_true, if_false, wi_eq, wi_eq', wi_ne, wi_row, wi_2, N0, N1, N2, N3, N4, N5, N6, N7, N8, N9, N10, N11, N12, N13, N14, N15, N16, N17, N18, N19, N20, N21, N22, N23, N24, N25, N26, N27, N28, N29, N30, N31, N32, N33, N34, N35, N36, N37, N38, N39, N40, N41, N42, N43, N45, N48, N57, N59, N88, N89, N97, N99, N120, N121, N122, N179, N200, N255, N300, N400, N880, N900, N999, N1019, N50000000, N100000000, N1000000000, N2147483647, N2147483648, h.1, e2]
      rfl
theorem cPrep {m V q : Nat} {p but : Int} {d : MD} {σ : Wd} (hm : 10 < m) (hd : MDok d V) (hp : R p) (hb : R but) (hq : q ≤ 120) (h : CV m σ V d) (hl : σ.1 m 1 = I p) :
    ∃ σ', f_X1_prepare m (I (q : Int)) (I but) σ = some (I ((min q (srm d p but q V 0) : Nat) : Int), σ')
        ∧ (∀ k, k ≠ 6 → k ≠ 7 → σ'.1 k = σ.1 k) ∧ σ'.2 = σ.2
        ∧ (∀ w, w < V → σ'.1 6 w = I (rm d p but q w : Int) ∧ ∀ a, a ≤ kx d p but w q → σ'.1 7 (121 * w + a * (d.lo w).toNat) = I (cst d w ((a * (d.lo w).toNat : Nat) : Int))) := by
  have h5 := hd.1
  obtain ⟨σ', q1, q2, q3, q4⟩ := c_prep (p := p) (but := but) hm hd hp hb hq V 0 FU 0 σ (by show V < 6000; omega) (by omega) (by omega) h hl (fun w hw => absurd hw (by omega))
  refine ⟨σ', ?_, q2, q3, q4⟩
  rw [Nat.zero_add] at q1
  exact q1
end
section
/-! PURE: the class' table of least costs -/
theorem c_init {m V M : Nat} {p but : Int} {d : MD} (hm : 10 < m) (hV : V ≤ 5) (hM : M ≤ 120) :
    ∀ (r u n : Nat) (z : Int) (σ : Wd), z = (u : Int) → r < n → u + r = M + 1 → σ.1 m 3 = I (V : Int) →
      (∀ w, w < u → σ.1 8 (121 * V + w) = I (enc 1000000000 (lcs d p but V 0 w))) →
      ∃ σ', f_X1_choose_12 m n (I (M : Int)) (I z) σ = f_X1_choose_59 m FU (I (M : Int)) (I ((V : Int) - 1)) σ'
        ∧ (∀ k, k ≠ 8 → σ'.1 k = σ.1 k) ∧ σ'.2 = σ.2
        ∧ (∀ w, w ≤ M → σ'.1 8 (121 * V + w) = I (enc 1000000000 (lcs d p but V 0 w)))
  | 0, u, n + 1, z, σ, hz, _, hu, h, hw => by
    refine ⟨σ, ?_, fun _ _ => rfl, rfl, fun w hw2 => hw w (by omega)⟩
    rw [f_X1_choose_12]
    simp (disch := omega) only [↓reduceIte, gd_t, bd_s, nm_W, nm_I, I_add, I_sub, I_mul, I_neg, I_le_t, I_le_f, I_lt_t, I_lt_f, I_eq_t, I_eq_f, I_inb', I_ix', Int.toNat_natCast, decide_true, decide_false, Bool.not_false, Bool.not_true, if_true, if_false, wi_eq, wi_eq', wi_ne, wi_row, wi_2, N0, N1, N2, N3, N4, N5, N6, N7, N8, N9, N10, N11, N12, N13, N14, N15, N16, N17, N18, N19, N20, N21, N22, N23, N24, N25, N26, N27, N28, N29, N30, N31, N32, N33, N34, N35, N36, N37, N38, N39, N40, N41, N42, N43, N45, N48, N57, N59, N88, N89, N97, N99, N120, N121, N122, N179, N200, N255, N300, N400, N880, N900, N999, N1019, N50000000, N100000000, N1000000000, N2147483647, N2147483648, h]
  | r + 1, u, n + 1, z, σ, hz, hn, hu, h, hw => by
    obtain ⟨σ', q1, q2, q3, q4⟩ := c_init (p := p) (but := but) (d := d) hm hV hM r (u + 1) n (z + 1) (wi σ 8 (121 * V + u) (I (enc 1000000000 (lcs d p but V 0 u)))) (by omega) (by omega) (by omega)
      (by rw [wi_row (by omega)]; exact h)
      (fun w hw2 => by
        by_cases c : w = u
        · subst c; rw [wi_eq]
        · rw [wi_ne (by omega)]; exact hw w (by omega))
    refine ⟨σ', ?_, fun k hk => by rw [q2 k hk, wi_row hk], q3, q4⟩
    have tz : ((V : Int) * 121 + z).toNat = 121 * V + u := by omega
    rw [← q1, f_X1_choose_12]
    by_cases c : u = 0
    · rw [show lcs d p but V 0 u = some 0 from by unfold lcs; rw [if_pos c]]
      simp (disch := omega) only [↓reduceIte, gd_t, bd_s, nm_W, nm_I, I_add, I_sub, I_mul, I_neg, I_le_t, I_le_f, I_lt_t, I_lt_f, I_eq_t, I_eq_f, I_inb', I_ix', Int.toNat_natCast, decide_true, decide_false, Bool.not_false, Bool.not_true, if_true, if_false, wi_eq, wi_eq', wi_ne, wi_row, wi_2, N0, N1, N2, N3, N4, N5, N6, N7, N8, N9, N10, N11, N12, N13, N14, N15, N16, N17, N18, N19, N20, N21, N22, N23, N24, N25, N26, N27, N28, N29, N30, N31, N32, N33, N34, N35, N36, N37, N38, N39, N40, N41, N42, N43, N45, N48, N57, N59, N88, N89, N97, N99, N120, N121, N122, N179, N200, N255, N300, N400, N880, N900, N999, N1019, N50000000, N100000000, N1000000000, N2147483647, N2147483648, h, f_X1_choose_44, tz, enc]
    · rw [show lcs d p but V 0 u = none from by unfold lcs; rw [if_neg c]]
      simp (disch := omega) only [↓reduceIte, gd_t, bd_s, nm_W, nm_I, I_add, I_sub, I_mul, I_neg, I_le_t, I_le_f, I_lt_t, I_lt_f, I_eq_t, I_eq_f, I_inb', I_ix', Int.toNat_natCast, decide_true, decide_false, Bool.not_false, Bool.not_true, if_true, if_false, wi_eq, wi_eq', wi_ne, wi_row, wi_2, N0, N1, N2, N3, N4, N5, N6, N7, N8, N9, N10, N11, N12, N13, N14, N15, N16, N17, N18, N19, N20, N21, N22, N23, N24, N25, N26, N27, N28, N29, N30, N31, N32, N33, N34, N35, N36, N37, N38, N39, N40, N41, N42, N43, N45, N48, N57, N59, N88, N89, N97, N99, N120, N121, N122, N179, N200, N255, N300, N400, N880, N900, N999, N1019, N50000000, N100000000, N1000000000, N2147483647, N2147483648, h, f_X1_choose_44, tz, enc]
/-- one number of the class' table -/
theorem c_lcs {σ : Wd} {V j u q : Nat} {p but : Int} {d : MD} (hd : MDok d V) (hj : j + 1 ≤ V) (hu : u ≤ q) (hq : q ≤ 120)
    (hr : ∀ w, w < V → σ.1 6 w = I (rm d p but q w : Int) ∧ ∀ a, a ≤ kx d p but w q → σ.1 7 (121 * w + a * (d.lo w).toNat) = I (cst d w ((a * (d.lo w).toNat : Nat) : Int)))
    (hg : ∀ w, w ≤ u → σ.1 8 (121 * (V - j) + w) = I (enc 1000000000 (lcs d p but V j w))) :
    f_X1_leastCostFrom (I ((V - (j + 1) : Nat) : Int)) (I (u : Int)) (I (d.lo (V - (j + 1)))) σ = some (I (enc 1000000000 (lcs d p but V (j + 1) u)), σ) := by
  have hv : V - (j + 1) < V := by omega
  obtain ⟨-, lb, -⟩ := hd.2 _ hv
  have h5 := hd.1
  have km := kx_min (p := p) (but := but) hd hv hu
  have rb := rm_le (p := p) (but := but) (q := q) hd hv
  have kq : kx d p but (V - (j + 1)) u ≤ kx d p but (V - (j + 1)) q := kx_mono hu
  have ku := kx_le (p := p) (but := but) (u := u) hd hv
  have key := lc1_ok (σ := σ) (v := V - (j + 1)) (u := u) (l := (d.lo (V - (j + 1))).toNat) (room := rm d p but q (V - (j + 1))) (c := fun i => cst d (V - (j + 1)) ((i * (d.lo (V - (j + 1))).toNat : Nat) : Int)) (g := fun i => lcs d p but V j (u - i * (d.lo (V - (j + 1))).toNat))
    (by omega) (by omega) (by omega) (by omega) (by omega) (hr _ hv).1
    (fun i hi => (hr _ hv).2 i (by rw [show min u (rm d p but q (V - (j + 1))) = min u (kx d p but (V - (j + 1)) q * (d.lo (V - (j + 1))).toNat) from rfl, km] at hi; omega))
    (fun i hi => by
      rw [show min u (rm d p but q (V - (j + 1))) = min u (kx d p but (V - (j + 1)) q * (d.lo (V - (j + 1))).toNat) from rfl, km] at hi
      have k2 : i * (d.lo (V - (j + 1))).toNat ≤ kx d p but (V - (j + 1)) u * (d.lo (V - (j + 1))).toNat := Nat.mul_le_mul_right _ hi
      have := cst_bnd (n := ((i * (d.lo (V - (j + 1))).toNat : Nat) : Int)) hd hv (by omega) (by omega)
      show -10000000 ≤ cst d (V - (j + 1)) ((i * (d.lo (V - (j + 1))).toNat : Nat) : Int) ∧ cst d (V - (j + 1)) ((i * (d.lo (V - (j + 1))).toNat : Nat) : Int) ≤ 10000000
      omega)
    (fun i hi => by
      rw [show min u (rm d p but q (V - (j + 1))) = min u (kx d p but (V - (j + 1)) q * (d.lo (V - (j + 1))).toNat) from rfl, km] at hi
      have k2 : i * (d.lo (V - (j + 1))).toNat ≤ kx d p but (V - (j + 1)) u * (d.lo (V - (j + 1))).toNat := Nat.mul_le_mul_right _ hi
      rw [show 121 * (V - (j + 1) + 1) + u - i * (d.lo (V - (j + 1))).toNat = 121 * (V - j) + (u - i * (d.lo (V - (j + 1))).toNat) from by omega]
      exact hg _ (by omega))
    (fun i hi => OB_mono (by omega) (lcs_OB hd j _ (by omega) (by omega)))
  rw [show min u (rm d p but q (V - (j + 1))) = min u (kx d p but (V - (j + 1)) q * (d.lo (V - (j + 1))).toNat) from rfl, km] at key
  rw [show (((d.lo (V - (j + 1))).toNat : Nat) : Int) = d.lo (V - (j + 1)) from by omega] at key
  exact key
/-- the rooms and costs that stand while the table is laid -/
def PR (d : MD) (p but : Int) (V q : Nat) (σ : Wd) : Prop := ∀ w, w < V → σ.1 6 w = I (rm d p but q w : Int) ∧ ∀ a, a ≤ kx d p but w q → σ.1 7 (121 * w + a * (d.lo w).toNat) = I (cst d w ((a * (d.lo w).toNat : Nat) : Int))
theorem PR_congr {d : MD} {p but : Int} {V q : Nat} {σ τ : Wd} (h : PR d p but V q σ) (e6 : τ.1 6 = σ.1 6) (e7 : τ.1 7 = σ.1 7) : PR d p but V q τ := by
  unfold PR at h ⊢
  rw [e6, e7]
  exact h
theorem c_row {m V j q M : Nat} {p but : Int} {d : MD} {k59 : Int32 → Int32 → Wd → Option (Int32 × Wd)} (hm : 10 < m) (hd : MDok d V) (hj : j + 1 ≤ V) (hq : q ≤ 120) (hM : M ≤ q) :
    ∀ (r u n : Nat) (z : Int) (σ : Wd), z = (u : Int) → r < n → u + r = M + 1 → CV m σ V d → PR d p but V q σ →
      (∀ w, w ≤ M → σ.1 8 (121 * (V - j) + w) = I (enc 1000000000 (lcs d p but V j w))) →
      (∀ w, w < u → σ.1 8 (121 * (V - (j + 1)) + w) = I (enc 1000000000 (lcs d p but V (j + 1) w))) →
      ∃ σ', f_X1_choose_67 m k59 n (I (M : Int)) (I ((V - (j + 1) : Nat) : Int)) (I z) σ = k59 (I (M : Int)) (I ((V : Int) - ((j + 1 : Nat) : Int) - 1)) σ'
        ∧ (∀ k, k ≠ 8 → σ'.1 k = σ.1 k) ∧ σ'.2 = σ.2 ∧ (∀ i, 121 * (V - j) ≤ i → σ'.1 8 i = σ.1 8 i)
        ∧ (∀ w, w ≤ M → σ'.1 8 (121 * (V - (j + 1)) + w) = I (enc 1000000000 (lcs d p but V (j + 1) w)))
  | 0, u, n + 1, z, σ, hz, _, hu, h, hr, hg, hw => by
    have h5 := hd.1
    refine ⟨σ, ?_, fun _ _ => rfl, rfl, fun _ _ => rfl, fun w hw2 => hw w (by omega)⟩
    rw [f_X1_choose_67]
    simp (disch := omega) only [↓reduceIte, gd_t, bd_s, nm_W, nm_I, I_add, I_sub, I_mul, I_neg, I_le_t, I_le_f, I_lt_t, I_lt_f, I_eq_t, I_eq_f, I_inb', I_ix', Int.toNat_natCast, decide_true, decide_false, Bool.not_false, Bool.not_true, if_true, if_false, wi_eq, wi_eq', wi_ne, wi_row, wi_2, N0, N1, N2, N3, N4, N5, N6, N7, N8, N9, N10, N11, N12, N13, N14, N15, N16, N17, N18, N19, N20, N21, N22, N23, N24, N25, N26, N27, N28, N29, N30, N31, N32, N33, N34, N35, N36, N37, N38, N39, N40, N41, N42, N43, N45, N48, N57, N59, N88, N89, N97, N99, N120, N121, N122, N179, N200, N255, N300, N400, N880, N900, N999, N1019, N50000000, N100000000, N1000000000, N2147483647, N2147483648]
    congr 2
    omega
  | r + 1, u, n + 1, z, σ, hz, hn, hu, h, hr, hg, hw => by
    have h5 := hd.1
    have hv : V - (j + 1) < V := by omega
    have e := c_lcs hd hj (show u ≤ q by omega) hq hr (fun w hw => hg w (by omega))
    rw [← hz] at e
    obtain ⟨σ', q1, q2, q3, q4, q5⟩ := c_row (k59 := k59) hm hd hj hq hM r (u + 1) n (z + 1) (wi σ 8 (121 * (V - (j + 1)) + u) (I (enc 1000000000 (lcs d p but V (j + 1) u)))) (by omega) (by omega) (by omega)
      (CV_congr h (fun k hk => wi_row (by omega))) (PR_congr hr (wi_row (by decide)) (wi_row (by decide)))
      (fun w hw2 => by rw [wi_ne (by omega)]; exact hg w hw2)
      (fun w hw2 => by
        by_cases c : w = u
        · subst c; rw [wi_eq]
        · rw [wi_ne (by omega)]; exact hw w (by omega))
    refine ⟨σ', ?_, fun k hk => by rw [q2 k hk, wi_row hk], q3, fun i hi => by rw [q4 i hi, wi_ne (by omega)], q5⟩
    have tz : (((V - (j + 1) : Nat) : Int) * 121 + z).toNat = 121 * (V - (j + 1)) + u := by omega
    rw [← q1, f_X1_choose_67]
    simp (disch := omega) only [↓reduceIte, gd_t, bd_s, nm_W, nm_I, I_add, I_sub, I_mul, I_neg, I_le_t, I_le_f, I_lt_t, I_lt_f, I_eq_t, I_eq_f, I_inb', I_ix', Int.toNat_natCast, decide_true, decide_false, Bool.not_false, Bool.not_true, if_true, if_false, wi_eq, wi_eq', wi_ne, wi_row, wi_2, N0, N1, N2, N3, N4, N5, N6, N7, N8, N9, N10, N11, N12, N13, N14, N15, N16, N17, N18, N19, N20, N21, N22, N23, N24, N25, N26, N27, N28, N29, N30, N31, N32, N33, N34, N35, N36, N37, N38, N39, N40, N41, N42, N43, N45, N48, N57, N59, N88, N89, N97, N99, N120, N121, N122, N179, N200, N255, N300, N400, N880, N900, N999, N1019, N50000000, N100000000, N1000000000, N2147483647, N2147483648, cLot h hd hv, e, tz]
/-- what stands behind the table: most units, their cost, the shares -/
def c_end (m : Nat) (x4 : Int32) (σ : Wd) : Option (Int32 × Wd) := bd (f_X1_mostUnits 8 726 x4 σ) fun r1 σ2 => nmW (wi σ2 4 0 r1) fun σ3 => gd (inb (σ3.1 4 0) 726) (nmW (wi σ3 4 1 (σ3.1 8 (ix (σ3.1 4 0)))) fun σ4 => bd (f_X1_deal m σ4) fun _ σ5 => some (0, σ5))
theorem c_rows {m V q M : Nat} {p but : Int} {d : MD} (hm : 10 < m) (hd : MDok d V) (hq : q ≤ 120) (hM : M ≤ q) :
    ∀ (r j n : Nat) (z : Int) (σ : Wd), z = (V : Int) - (j : Int) - 1 → r < n → j + r = V → CV m σ V d → PR d p but V q σ →
      (∀ i, i ≤ j → ∀ w, w ≤ M → σ.1 8 (121 * (V - i) + w) = I (enc 1000000000 (lcs d p but V i w))) →
      ∃ σ', f_X1_choose_59 m n (I (M : Int)) (I z) σ = c_end m (I (M : Int)) σ'
        ∧ (∀ k, k ≠ 8 → σ'.1 k = σ.1 k) ∧ σ'.2 = σ.2
        ∧ (∀ i, i ≤ V → ∀ w, w ≤ M → σ'.1 8 (121 * (V - i) + w) = I (enc 1000000000 (lcs d p but V i w)))
  | 0, j, n + 1, z, σ, hz, _, hj, h, hr, hg => by
    have hj : j = V := by omega
    subst hj
    refine ⟨σ, ?_, fun _ _ => rfl, rfl, hg⟩
    have e : I z < 0 := by
      show I z < I 0
      rw [I_lt (by unfold R; omega) (by unfold R; omega)]; omega
    rw [f_X1_choose_59]
    dsimp only
    rw [if_pos e]
    rfl
  | r + 1, j, n + 1, z, σ, hz, hn, hj, h, hr, hg => by
    have h5 := hd.1
    obtain ⟨τ, t1, t2, t3, t4, t5⟩ := c_row (k59 := f_X1_choose_59 m n) hm hd (show j + 1 ≤ V by omega) hq hM (M + 1) 0 FU 0 σ rfl (by show _ < 6000; omega) (by omega) h hr (hg j (Nat.le_refl _)) (fun w hw => absurd hw (by omega))
    obtain ⟨σ', q1, q2, q3, q4⟩ := c_rows hm hd hq hM r (j + 1) n _ τ rfl (by omega) (by omega)
      (CV_congr h (fun k hk => t2 k (by omega))) (PR_congr hr (t2 6 (by decide)) (t2 7 (by decide)))
      (fun i hi w hw => by
        by_cases c : i = j + 1
        · subst c; exact t5 w hw
        · rw [t4 _ (by omega)]
          exact hg i (by omega) w hw)
    refine ⟨σ', ?_, fun k hk => by rw [q2 k hk, t2 k hk], by rw [q3, t3], q4⟩
    have e : ¬ I z < 0 := by
      show ¬ I z < I 0
      rw [I_lt (by unfold R; omega) (by unfold R; omega)]; omega
    rw [← q1, ← t1, f_X1_choose_59]
    dsimp only
    rw [if_neg e, show z = ((V - (j + 1) : Nat) : Int) from by omega]
    rfl
end
section
/-! PURE: the class' shares; the class' best split, whole -/
def lu (f : Nat → Option Int) (t : Option Int) : Nat → Nat
  | 0 => 0
  | i + 1 => lst f t i
theorem c_mal {σ : Wd} {v u l K M : Nat} {c : Nat → Int} {g : Nat → Option Int} {y : Int} (hv : v < 5) (hu : u ≤ 120) (hl : 1 ≤ l) (hl2 : l ≤ 20) (hK : K * l ≤ M) (hM : M < K * l + l) (hMu : M ≤ u)
    (hc : ∀ i, i ≤ K → σ.1 7 (121 * v + i * l) = I (c i)) (hcb : ∀ i, i ≤ K → -10000000 ≤ c i ∧ c i ≤ 10000000)
    (hg : ∀ i, i ≤ K → σ.1 8 (121 * (v + 1) + u - i * l) = I (enc 1000000000 (g i))) (hgb : ∀ i, i ≤ K → OB 10000000 (g i))
    (ht : σ.1 8 (121 * v + u) = I y) (hy : -20000000 ≤ y ∧ y ≤ 20000000) :
    ∀ (r i n : Nat) (z4 z6 : Int), z4 = ((lu (fun i => oadd (c i) (g i)) (some y) i * l : Nat) : Int) → z6 = ((i * l : Nat) : Int) → r < n → i + r = K + 1 →
      f_X1_mostAtLeastCost_28 n (I (v : Int)) (I (u : Int)) (I (l : Int)) (I z4) (I (M : Int)) (I z6) σ = some (I ((lst (fun i => oadd (c i) (g i)) (some y) K * l : Nat) : Int), σ)
  | 0, i, n + 1, z4, z6, h4, h6, _, hi => by
    have hi : i = K + 1 := by omega
    subst hi
    have e : (K + 1) * l = K * l + l := Nat.succ_mul K l
    rw [f_X1_mostAtLeastCost_28]
    simp (disch := omega) only [↓reduceIte, gd_t, bd_s, nm_W, nm_I, I_add, I_sub, I_mul, I_neg, I_le_t, I_le_f, I_lt_t, I_lt_f, I_eq_t, I_eq_f, I_inb', I_ix', Int.toNat_natCast, decide_true, decide_false, Bool.not_false, Bool.not_true, if_true, if_false, wi_eq, wi_eq', wi_ne, wi_row, wi_2, N0, N1, N2, N3, N4, N5, N6, N7, N8, N9, N10, N11, N12, N13, N14, N15, N16, N17, N18, N19, N20, N21, N22, N23, N24, N25, N26, N27, N28, N29, N30, N31, N32, N33, N34, N35, N36, N37, N38, N39, N40, N41, N42, N43, N45, N48, N57, N59, N88, N89, N97, N99, N120, N121, N122, N179, N200, N255, N300, N400, N880, N900, N999, N1019, N50000000, N100000000, N1000000000, N2147483647, N2147483648]
    rw [h4]
    rfl
  | r + 1, i, n + 1, z4, z6, h4, h6, hn, hi => by
    have hiK : i ≤ K := by omega
    have m1 : i * l ≤ K * l := Nat.mul_le_mul_right l hiK
    have e : (i + 1) * l = i * l + l := Nat.succ_mul i l
    have t1 : (((v : Int) + 1) * 121 + (u : Int) - z6).toNat = 121 * (v + 1) + u - i * l := by omega
    have t2 : ((v : Int) * 121 + z6).toNat = 121 * v + i * l := by omega
    have t3 : ((v : Int) * 121 + (u : Int)).toNat = 121 * v + u := by omega
    have gb := hgb i hiK
    have cb := hcb i hiK
    have keep : oadd (c i) (g i) ≠ some y → z4 = ((lu (fun i => oadd (c i) (g i)) (some y) (i + 1) * l : Nat) : Int) := by
      intro hne
      rw [h4]
      cases i with
      | zero => rfl
      | succ i => rw [lu, lu, lst, if_neg hne]
    have ih := fun z4 (h : z4 = ((lu (fun i => oadd (c i) (g i)) (some y) (i + 1) * l : Nat) : Int)) => c_mal hv hu hl hl2 hK hM hMu hc hcb hg hgb ht hy r (i + 1) n z4 (z6 + (l : Int)) h (by omega) (by omega) (by omega)
    rw [f_X1_mostAtLeastCost_28]
    cases hgi : g i with
    | none =>
      have hge := hg i hiK
      rw [hgi] at hge
      obtain ⟨F, hF⟩ : ∃ F : Int, F = enc 1000000000 none := ⟨_, rfl⟩
      rw [← hF] at hge
      have hF : F = 1000000000 := hF
      simp (disch := omega) only [↓reduceIte, gd_t, bd_s, nm_W, nm_I, I_add, I_sub, I_mul, I_neg, I_le_t, I_le_f, I_lt_t, I_lt_f, I_eq_t, I_eq_f, I_inb', I_ix', Int.toNat_natCast, decide_true, decide_false, Bool.not_false, Bool.not_true, if_true, if_false, wi_eq, wi_eq', wi_ne, wi_row, wi_2, N0, N1, N2, N3, N4, N5, N6, N7, N8, N9, N10, N11, N12, N13, N14, N15, N16, N17, N18, N19, N20, N21, N22, N23, N24, N25, N26, N27, N28, N29, N30, N31, N32, N33, N34, N35, N36, N37, N38, N39, N40, N41, N42, N43, N45, N48, N57, N59, N88, N89, N97, N99, N120, N121, N122, N179, N200, N255, N300, N400, N880, N900, N999, N1019, N50000000, N100000000, N1000000000, N2147483647, N2147483648, t1, hge, f_X1_mostAtLeastCost_93]
      exact ih z4 (keep (by rw [hgi]; exact fun h => by cases h))
    | some w =>
      have hge := hg i hiK
      rw [hgi] at hge
      have wb := gb w hgi
      by_cases c0 : c i + w = y
      · simp (disch := omega) only [↓reduceIte, gd_t, bd_s, nm_W, nm_I, I_add, I_sub, I_mul, I_neg, I_le_t, I_le_f, I_lt_t, I_lt_f, I_eq_t, I_eq_f, I_inb', I_ix', Int.toNat_natCast, decide_true, decide_false, Bool.not_false, Bool.not_true, if_true, if_false, wi_eq, wi_eq', wi_ne, wi_row, wi_2, N0, N1, N2, N3, N4, N5, N6, N7, N8, N9, N10, N11, N12, N13, N14, N15, N16, N17, N18, N19, N20, N21, N22, N23, N24, N25, N26, N27, N28, N29, N30, N31, N32, N33, N34, N35, N36, N37, N38, N39, N40, N41, N42, N43, N45, N48, N57, N59, N88, N89, N97, N99, N120, N121, N122, N179, N200, N255, N300, N400, N880, N900, N999, N1019, N50000000, N100000000, N1000000000, N2147483647, N2147483648, t1, t2, t3, hge, hc i hiK, ht, enc, f_X1_mostAtLeastCost_93]
        refine ih z6 ?_
        rw [h6]
        cases i with
        | zero => rw [Nat.zero_mul, lu, lst, Nat.zero_mul]
        | succ i =>
          rw [lu, lst, if_pos]
          show oadd (c (i + 1)) (g (i + 1)) = some y
          rw [hgi, ← c0]
          rfl
      · simp (disch := omega) only [↓reduceIte, gd_t, bd_s, nm_W, nm_I, I_add, I_sub, I_mul, I_neg, I_le_t, I_le_f, I_lt_t, I_lt_f, I_eq_t, I_eq_f, I_inb', I_ix', Int.toNat_natCast, decide_true, decide_false, Bool.not_false, Bool.not_true, if_true, if_false, wi_eq, wi_eq', wi_ne, wi_row, wi_2, N0, N1, N2, N3, N4, N5, N6, N7, N8, N9, N10, N11, N12, N13, N14, N15, N16, N17, N18, N19, N20, N21, N22, N23, N24, N25, N26, N27, N28, N29, N30, N31, N32, N33, N34, N35, N36, N37, N38, N39, N40, N41, N42, N43, N45, N48, N57, N59, N88, N89, N97, N99, N120, N121, N122, N179, N200, N255, N300, N400, N880, N900, N999, N1019, N50000000, N100000000, N1000000000, N2147483647, N2147483648, t1, t2, t3, hge, hc i hiK, ht, enc, f_X1_mostAtLeastCost_93]
        refine ih z4 (keep ?_)
        rw [hgi]
        intro q
        exact c0 (Option.some.inj q)
/-- one share of the class -/
theorem c_share {σ : Wd} {V j u q : Nat} {p but y : Int} {d : MD} (hd : MDok d V) (hj : j + 1 ≤ V) (hu : u ≤ q) (hq : q ≤ 120) (hr : PR d p but V q σ) (hy : lcs d p but V (j + 1) u = some y)
    (hg : ∀ w, w ≤ u → σ.1 8 (121 * (V - j) + w) = I (enc 1000000000 (lcs d p but V j w))) (ht : σ.1 8 (121 * (V - (j + 1)) + u) = I (enc 1000000000 (lcs d p but V (j + 1) u))) :
    f_X1_mostAtLeastCost (I ((V - (j + 1) : Nat) : Int)) (I (u : Int)) (I (d.lo (V - (j + 1)))) σ = some (I (sh1 d p but V j u : Int), σ) := by
  have hv : V - (j + 1) < V := by omega
  obtain ⟨-, lb, -⟩ := hd.2 _ hv
  have h5 := hd.1
  have km := kx_min (p := p) (but := but) hd hv hu
  rw [show kx d p but (V - (j + 1)) q * (d.lo (V - (j + 1))).toNat = rm d p but q (V - (j + 1)) from rfl] at km
  have rb := rm_le (p := p) (but := but) (q := q) hd hv
  have kq : kx d p but (V - (j + 1)) u ≤ kx d p but (V - (j + 1)) q := kx_mono hu
  have ku := kx_le (p := p) (but := but) (u := u) hd hv
  have yb := lcs_OB (p := p) (but := but) hd (j + 1) u hj (by omega) y hy
  obtain ⟨k1, k2⟩ := div_box (M := min u (rm d p but q (V - (j + 1)))) (show 1 ≤ (d.lo (V - (j + 1))).toNat by omega)
  rw [km] at k1 k2
  have kK : kx d p but (V - (j + 1)) u ≤ kx d p but (V - (j + 1)) u * (d.lo (V - (j + 1))).toNat := Nat.le_mul_of_pos_right _ (by omega)
  rw [hy] at ht
  have hm := (hr _ hv).1
  have key := c_mal (σ := σ) (v := V - (j + 1)) (u := u) (l := (d.lo (V - (j + 1))).toNat) (K := kx d p but (V - (j + 1)) u) (M := min u (rm d p but q (V - (j + 1)))) (y := y) (c := fun i => cst d (V - (j + 1)) ((i * (d.lo (V - (j + 1))).toNat : Nat) : Int)) (g := fun i => lcs d p but V j (u - i * (d.lo (V - (j + 1))).toNat))
    (by omega) (by omega) (by omega) (by omega) k1 k2 (by omega)
    (fun i hi => (hr _ hv).2 i (by omega))
    (fun i hi => by
      have k2 : i * (d.lo (V - (j + 1))).toNat ≤ kx d p but (V - (j + 1)) u * (d.lo (V - (j + 1))).toNat := Nat.mul_le_mul_right _ hi
      have := cst_bnd (n := ((i * (d.lo (V - (j + 1))).toNat : Nat) : Int)) hd hv (by omega) (by omega)
      show -10000000 ≤ cst d (V - (j + 1)) ((i * (d.lo (V - (j + 1))).toNat : Nat) : Int) ∧ cst d (V - (j + 1)) ((i * (d.lo (V - (j + 1))).toNat : Nat) : Int) ≤ 10000000
      omega)
    (fun i hi => by
      have k2 : i * (d.lo (V - (j + 1))).toNat ≤ kx d p but (V - (j + 1)) u * (d.lo (V - (j + 1))).toNat := Nat.mul_le_mul_right _ hi
      rw [show 121 * (V - (j + 1) + 1) + u - i * (d.lo (V - (j + 1))).toNat = 121 * (V - j) + (u - i * (d.lo (V - (j + 1))).toNat) from by omega]
      exact hg _ (by omega))
    (fun i hi => OB_mono (by omega) (lcs_OB hd j _ (by omega) (by omega)))
    ht (by omega) (kx d p but (V - (j + 1)) u + 1) 0 FU 0 0 (by rw [lu, Nat.zero_mul]; rfl) (by rw [Nat.zero_mul]; rfl) (by show _ < 6000; omega) (by omega)
  rw [show (((d.lo (V - (j + 1))).toNat : Nat) : Int) = d.lo (V - (j + 1)) from by omega] at key
  have es : sh1 d p but V j u = lst (fun i => oadd (cst d (V - (j + 1)) ((i * (d.lo (V - (j + 1))).toNat : Nat) : Int)) (lcs d p but V j (u - i * (d.lo (V - (j + 1))).toNat))) (some y) (kx d p but (V - (j + 1)) u) * (d.lo (V - (j + 1))).toNat := by
    unfold sh1; rw [hy]
  rw [es]
  unfold f_X1_mostAtLeastCost
  by_cases c : u ≤ rm d p but q (V - (j + 1))
  · rw [show min u (rm d p but q (V - (j + 1))) = u from by omega] at key
    rw [← key]
    simp (disch := omega) only [↓reduceIte, gd_t, bd_s, nm_W, nm_I, I_add, I_sub, I_mul, I_neg, I_le_t, I_le_f, I_lt_t, I_lt_f, I_eq_t, I_eq_f, I_inb', I_ix', Int.toNat_natCast, decide_true, decide_false, Bool.not_false, Bool.not_true, if_true, if_false, wi_eq, wi_eq', wi_ne, wi_row, wi_2, N0, N1, N2, N3, N4, N5, N6, N7, N8, N9, N10, N11, N12, N13, N14, N15, N16, N17, N18, N19, N20, N21, N22, N23, N24, N25, N26, N27, N28, N29, N30, N31, N32, N33, N34, N35, N36, N37, N38, N39, N40, N41, N42, N43, N45, N48, N57, N59, N88, N89, N97, N99, N120, N121, N122, N179, N200, N255, N300, N400, N880, N900, N999, N1019, N50000000, N100000000, N1000000000, N2147483647, N2147483648, hm, f_X1_mostAtLeastCost_23]
  · rw [show min u (rm d p but q (V - (j + 1))) = rm d p but q (V - (j + 1)) from by omega] at key
    rw [← key]
    simp (disch := omega) only [↓reduceIte, gd_t, bd_s, nm_W, nm_I, I_add, I_sub, I_mul, I_neg, I_le_t, I_le_f, I_lt_t, I_lt_f, I_eq_t, I_eq_f, I_inb', I_ix', Int.toNat_natCast, decide_true, decide_false, Bool.not_false, Bool.not_true, if_true, if_false, wi_eq, wi_eq', wi_ne, wi_row, wi_2, N0, N1, N2, N3, N4, N5, N6, N7, N8, N9, N10, N11, N12, N13, N14, N15, N16, N17, N18, N19, N20, N21, N22, N23, N24, N25, N26, N27, N28, N29, N30, N31, N32, N33, N34, N35, N36, N37, N38, N39, N40, N41, N42, N43, N45, N48, N57, N59, N88, N89, N97, N99, N120, N121, N122, N179, N200, N255, N300, N400, N880, N900, N999, N1019, N50000000, N100000000, N1000000000, N2147483647, N2147483648, hm, f_X1_mostAtLeastCost_23]
theorem c_deal {m V q M : Nat} {p but : Int} {d : MD} (hm : 10 < m) (hd : MDok d V) (hq : q ≤ 120) (hM : M ≤ q) :
    ∀ (j n u : Nat) (σ : Wd), j < n → j ≤ V → u ≤ M → lcs d p but V j u ≠ none → CV m σ V d → PR d p but V q σ →
      (∀ i, i ≤ V → ∀ w, w ≤ M → σ.1 8 (121 * (V - i) + w) = I (enc 1000000000 (lcs d p but V i w))) →
      ∃ σ', f_X1_deal_7 m n (I (u : Int)) (I ((V - j : Nat) : Int)) σ = some (0, σ')
        ∧ (∀ k, k ≠ 5 → σ'.1 k = σ.1 k) ∧ σ'.2 = σ.2
        ∧ (∀ v, V - j ≤ v → v < V → σ'.1 5 v = I (shs d p but V j u v : Int)) ∧ (∀ v, v < V - j → σ'.1 5 v = σ.1 5 v)
  | 0, n + 1, u, σ, hn, hj, hu, hs, h, hr, hg => by
    have h5 := hd.1
    refine ⟨σ, ?_, fun _ _ => rfl, rfl, fun v h1 h2 => absurd h2 (by omega), fun _ _ => rfl⟩
    rw [f_X1_deal_7]
    simp (disch := omega) only [↓reduceIte, gd_t, bd_s, nm_W, nm_I, I_add, I_sub, I_mul, I_neg, I_le_t, I_le_f, I_lt_t, I_lt_f, I_eq_t, I_eq_f, I_inb', I_ix', Int.toNat_natCast, decide_true, decide_false, Bool.not_false, Bool.not_true, if_true, if_false, wi_eq, wi_eq', wi_ne, wi_row, wi_2, N0, N1, N2, N3, N4, N5, N6, N7, N8, N9, N10, N11, N12, N13, N14, N15, N16, N17, N18, N19, N20, N21, N22, N23, N24, N25, N26, N27, N28, N29, N30, N31, N32, N33, N34, N35, N36, N37, N38, N39, N40, N41, N42, N43, N45, N48, N57, N59, N88, N89, N97, N99, N120, N121, N122, N179, N200, N255, N300, N400, N880, N900, N999, N1019, N50000000, N100000000, N1000000000, N2147483647, N2147483648, h.1]
  | j + 1, n + 1, u, σ, hn, hj, hu, hs, h, hr, hg => by
    have h5 := hd.1
    have hv : V - (j + 1) < V := by omega
    obtain ⟨-, lb, -⟩ := hd.2 _ hv
    have k1 := kx_le (p := p) (but := but) (u := u) hd hv
    obtain ⟨y, hy⟩ := Option.ne_none_iff_exists'.mp hs
    have at1 := mnf_at (show mnf _ _ = some y from hy)
    have hl1 := lst_le (f := fun i => oadd (cst d (V - (j + 1)) ((i * (d.lo (V - (j + 1))).toNat : Nat) : Int)) (lcs d p but V j (u - i * (d.lo (V - (j + 1))).toNat))) (t := some y) (kx d p but (V - (j + 1)) u)
    have hl2 := lst_at _ at1
    have es : sh1 d p but V j u = lst (fun i => oadd (cst d (V - (j + 1)) ((i * (d.lo (V - (j + 1))).toNat : Nat) : Int)) (lcs d p but V j (u - i * (d.lo (V - (j + 1))).toNat))) (some y) (kx d p but (V - (j + 1)) u) * (d.lo (V - (j + 1))).toNat := by
      unfold sh1; rw [hy]
    have sn : lcs d p but V j (u - sh1 d p but V j u) ≠ none := by
      intro q
      rw [es] at q
      rw [q] at hl2
      cases hl2
    have sl : sh1 d p but V j u ≤ u := by
      rw [es]
      exact Nat.le_trans (Nat.mul_le_mul_right _ hl1) k1
    have e := c_share hd hj (show u ≤ q by omega) hq hr hy (fun w hw => hg j (by omega) w (by omega)) (hg (j + 1) hj u hu)
    obtain ⟨σ', q1, q2, q3, q4, q5⟩ := c_deal hm hd hq hM j n (u - sh1 d p but V j u) (wi σ 5 (V - (j + 1)) (I (sh1 d p but V j u : Int))) (by omega) (by omega) (by omega) sn
      (CV_congr h (fun k hk => wi_row (by omega))) (PR_congr hr (wi_row (by decide)) (wi_row (by decide)))
      (fun i hi w hw => by rw [wi_row (by decide)]; exact hg i hi w hw)
    refine ⟨σ', ?_, fun k hk => by rw [q2 k hk, wi_row hk], q3, fun v h1 h2 => ?_, fun v h1 => by rw [q5 v (by omega), wi_ne (by omega)]⟩
    · rw [← q1, f_X1_deal_7]
      simp (disch := omega) only [↓reduceIte, gd_t, bd_s, nm_W, nm_I, I_add, I_sub, I_mul, I_neg, I_le_t, I_le_f, I_lt_t, I_lt_f, I_eq_t, I_eq_f, I_inb', I_ix', Int.toNat_natCast, decide_true, decide_false, Bool.not_false, Bool.not_true, if_true, if_false, wi_eq, wi_eq', wi_ne, wi_row, wi_2, N0, N1, N2, N3, N4, N5, N6, N7, N8, N9, N10, N11, N12, N13, N14, N15, N16, N17, N18, N19, N20, N21, N22, N23, N24, N25, N26, N27, N28, N29, N30, N31, N32, N33, N34, N35, N36, N37, N38, N39, N40, N41, N42, N43, N45, N48, N57, N59, N88, N89, N97, N99, N120, N121, N122, N179, N200, N255, N300, N400, N880, N900, N999, N1019, N50000000, N100000000, N1000000000, N2147483647, N2147483648, h.1, cLot h hd hv, e]
      congr 2
      · omega
      · omega
    · unfold shs
      by_cases c : v = V - (j + 1)
      · rw [if_pos c, c, q5 _ (by omega), wi_eq]
      · rw [if_neg c]
        exact q4 v (by omega) h2
theorem cChoose {m V q : Nat} {p but : Int} {d : MD} {σ : Wd} (hm : 10 < m) (hd : MDok d V) (hp : R p) (hb : R but) (hq : q ≤ 120) (h : CV m σ V d) (hl : σ.1 m 1 = I p) :
    ∃ σ', f_X1_choose m (I (q : Int)) (I but) σ = some (0, σ') ∧ σ'.1 4 0 = I (bu (lcs d p but V V) q : Int)
      ∧ σ'.1 4 1 = I (enc 100000000 (lcs d p but V V (bu (lcs d p but V V) q)))
      ∧ (∀ v, v < V → σ'.1 5 v = I (shs d p but V V (bu (lcs d p but V V) q) v : Int))
      ∧ (∀ k, k < 4 ∨ 9 < k → σ'.1 k = σ.1 k) ∧ σ'.2 = σ.2 := by
  have h5 := hd.1
  obtain ⟨s1, a1, a2, a3, a4⟩ := cPrep (q := q) hm hd hp hb hq h hl
  obtain ⟨M, hM⟩ : ∃ M, M = min q (srm d p but q V 0) := ⟨_, rfl⟩
  rw [← hM] at a1
  have h1 : CV m s1 V d := CV_congr h (fun k hk => a2 k (by omega) (by omega))
  obtain ⟨s2, b1, b2, b3, b4⟩ := c_init (p := p) (but := but) (d := d) hm h5 (show M ≤ 120 by omega) (M + 1) 0 FU 0 s1 rfl (by show _ < 6000; omega) (by omega) h1.1 (fun w hw => absurd hw (by omega))
  have h2 : CV m s2 V d := CV_congr h1 (fun k hk => b2 k (by omega))
  have r2 : PR d p but V q s2 := PR_congr a4 (b2 6 (by decide)) (b2 7 (by decide))
  obtain ⟨s3, c1, c2, c3, c4⟩ := c_rows (p := p) (but := but) hm hd hq (show M ≤ q by omega) V 0 FU ((V : Int) - 1) s2 (by omega) (by show V < 6000; omega) (by omega) h2 r2 (fun i hi w hw => by
      have : i = 0 := by omega
      subst this
      exact b4 w hw)
  have h3 : CV m s3 V d := CV_congr h2 (fun k hk => c2 k (by omega))
  have r3 : PR d p but V q s3 := PR_congr r2 (c2 6 (by decide)) (c2 7 (by decide))
  have row : ∀ w, w ≤ M → s3.1 8 w = I (enc 1000000000 (lcs d p but V V w)) := fun w hw => by
    have := c4 V (Nat.le_refl _) w hw
    rw [show 121 * (V - V) + w = w from by omega] at this
    exact this
  have e1 := mostU (σ := s3) (q0 := 8) (l0 := 726) (f := lcs d p but V V) (by decide) (by decide) M FU (M : Int) rfl (by show _ < 6000; omega) (by omega)
    (fun w hw => ⟨row w hw, OB_mono (by omega) (lcs_OB hd V w (Nat.le_refl _) (by omega))⟩)
  have bc : bu (lcs d p but V V) q = bu (lcs d p but V V) M := bu_cut q (by omega) (fun u g1 g2 => by
    cases hu : lcs d p but V V u with
    | none => rfl
    | some y =>
      have := lcs_srm (q := q) (p := p) (but := but) hd V u (Nat.le_refl _) g2 (by rw [hu]; exact fun h => by cases h)
      rw [Nat.sub_self] at this
      omega)
  have ub : bu (lcs d p but V V) M ≤ M := bu_le M
  have un : lcs d p but V V (bu (lcs d p but V V) M) ≠ none := bu_some (by rw [lcs_0]; exact fun h => by cases h) M
  rw [bc]
  obtain ⟨U, hU⟩ : ∃ U, U = bu (lcs d p but V V) M := ⟨_, rfl⟩
  rw [← hU] at e1 ub un ⊢
  obtain ⟨y, hy⟩ := Option.ne_none_iff_exists'.mp un
  obtain ⟨s4, hs4⟩ : ∃ s, s = wi (wi s3 4 0 (I (U : Int))) 4 1 (I y) := ⟨_, rfl⟩
  have f4 : ∀ k, k ≠ 4 → s4.1 k = s3.1 k := fun k hk => by rw [hs4, wi_row hk, wi_row hk]
  obtain ⟨s5, d1, d2, d3, d4, d5⟩ := c_deal (p := p) (but := but) hm hd hq (show M ≤ q by omega) V FU U s4 (by show V < 6000; omega) (Nat.le_refl _) ub un
    (CV_congr h3 (fun k hk => f4 k (by omega))) (PR_congr r3 (f4 6 (by decide)) (f4 7 (by decide))) (fun i hi w hw => by rw [f4 8 (by decide)]; exact c4 i hi w hw)
  refine ⟨s5, ?_, ?_, ?_, fun v hv => d4 v (by omega) hv, fun k hk => ?_, ?_⟩
  · unfold f_X1_choose
    rw [a1, bd_s]
    show f_X1_choose_12 m FU (I (M : Int)) (I 0) s1 = _
    rw [b1, c1]
    unfold c_end f_X1_mostUnits
    rw [e1]
    have tu : (U : Int).toNat = U := rfl
    have ru := row U ub
    rw [hy] at ru
    simp (disch := omega) only [↓reduceIte, gd_t, bd_s, nm_W, nm_I, I_add, I_sub, I_mul, I_neg, I_le_t, I_le_f, I_lt_t, I_lt_f, I_eq_t, I_eq_f, I_inb', I_ix', Int.toNat_natCast, decide_true, decide_false, Bool.not_false, Bool.not_true, if_true, if_false, wi_eq, wi_eq', wi_ne, wi_row, wi_2, N0, N1, N2, N3, N4, N5, N6, N7, N8, N9, N10, N11, N12, N13, N14, N15, N16, N17, N18, N19, N20, N21, N22, N23, N24, N25, N26, N27, N28, N29, N30, N31, N32, N33, N34, N35, N36, N37, N38, N39, N40, N41, N42, N43, N45, N48, N57, N59, N88, N89, N97, N99, N120, N121, N122, N179, N200, N255, N300, N400, N880, N900, N999, N1019, N50000000, N100000000, N1000000000, N2147483647, N2147483648, tu, ru, enc]
    rw [← hs4]
    unfold f_X1_deal
    rw [show s4.1 4 0 = I (U : Int) from by rw [hs4, wi_ne (by decide), wi_eq], show (0 : Int32) = I ((V - V : Nat) : Int) from by rw [Nat.sub_self]; rfl, d1]
    rfl
  · rw [d2 4 (by decide), hs4, wi_ne (by decide), wi_eq]
  · rw [d2 4 (by decide), hs4, wi_eq, hy]
    rfl
  · rw [d2 k (by omega), f4 k (by omega), c2 k (by omega), b2 k (by omega), a2 k (by omega) (by omega)]
  · rw [d3, hs4, wi_2, wi_2, c3, b3, a3]
end
section
/-! PURE: bound and margin: units by what each costs at least -/
def lf (d : MD) (v : Nat) : Int := if d.kd v = 2 then 0 else if d.kd v = 1 ∧ d.fe v / 2 < d.fe v then d.fe v / 2 else d.fe v
theorem lf_bnd {d : MD} {V v : Nat} (hd : MDok d V) (hv : v < V) : -9 ≤ lf d v ∧ lf d v ≤ 9 := by
  obtain ⟨-, -, c, -⟩ := hd.2 v hv
  unfold lf
  split
  · omega
  · split <;> omega
theorem cLeastFee {m : Nat} {σ : Wd} {V v : Nat} {d : MD} (h : CV m σ V d) (hd : MDok d V) (hv : v < V) : f_X3_leastUnitFee m (I (v : Int)) σ = some (I (lf d v), σ) := by
  have v5 : v < 5 := Nat.lt_of_lt_of_le hv hd.1
  obtain ⟨a, b, c, -⟩ := hd.2 v hv
  have e1 := (h.2 v hv).1
  have e2 := (h.2 v hv).2.2.1
  have hs : I (d.fe v) >>> (I 1 &&& 31) = I (d.fe v / 2) := half_shr c.1 c.2
  rw [N31] at hs
  unfold f_X3_leastUnitFee
  by_cases c1 : d.kd v = 2
  · have el : lf d v = 0 := by unfold lf; rw [if_pos c1]
    rw [el]
    simp (disch := omega) only [↓reduceIte, gd_t, bd_s, nm_W, nm_I, I_add, I_sub, I_mul, I_neg, I_le_t, I_le_f, I_lt_t, I_lt_f, I_eq_t, I_eq_f, I_inb', I_ix', Int.toNat_natCast, decide_true, decide_false, Bool.not_false, Bool.not_true, if_true, if_false, wi_eq, wi_eq', wi_ne, wi_row, wi_2, N0, N1, N2, N3, N4, N5, N6, N7, N8, N9, N10, N11, N12, N13, N14, N15, N16, N17, N18, N19, N20, N21, N22, N23, N24, N25, N26, N27, N28, N29, N30, N31, N32, N33, N34, N35, N36, N37, N38, N39, N40, N41, N42, N43, N45, N48, N57, N59, N88, N89, N97, N99, N120, N121, N122, N179, N200, N255, N300, N400, N880, N900, N999, N1019, N50000000, N100000000, N1000000000, N2147483647, N2147483648, e1]
  · by_cases c2 : d.kd v = 1
    · by_cases c3 : d.fe v / 2 < d.fe v
      · have el : lf d v = d.fe v / 2 := by unfold lf; rw [if_neg c1, if_pos ⟨c2, c3⟩]
        rw [el]
        simp (disch := omega) only [↓reduceIte, gd_t, bd_s, nm_W, nm_I, I_add, I_sub, I_mul, I_neg, I_le_t, I_le_f, I_lt_t, I_lt_f, I_eq_t, I_eq_f, I_inb', I_ix', Int.toNat_natCast, decide_true, decide_false, Bool.not_false, Bool.not_true, if_true, if_false, wi_eq, wi_eq', wi_ne, wi_row, wi_2, N0, N1, N2, N3, N4, N5, N6, N7, N8, N9, N10, N11, N12, N13, N14, N15, N16, N17, N18, N19, N20, N21, N22, N23, N24, N25, N26, N27, N28, N29, N30, N31, N32, N33, N34, N35, N36, N37, N38, N39, N40, N41, N42, N43, N45, N48, N57, N59, N88, N89, N97, N99, N120, N121, N122, N179, N200, N255, N300, N400, N880, N900, N999, N1019, N50000000, N100000000, N1000000000, N2147483647, N2147483648, e1, e2, hs, f_X3_leastUnitFee_51]
      · have el : lf d v = d.fe v := by unfold lf; rw [if_neg c1, if_neg (fun q => c3 q.2)]
        rw [el]
        simp (disch := omega) only [↓reduceIte, gd_t, bd_s, nm_W, nm_I, I_add, I_sub, I_mul, I_neg, I_le_t, I_le_f, I_lt_t, I_lt_f, I_eq_t, I_eq_f, I_inb', I_ix', Int.toNat_natCast, decide_true, decide_false, Bool.not_false, Bool.not_true, if_true, if_false, wi_eq, wi_eq', wi_ne, wi_row, wi_2, N0, N1, N2, N3, N4, N5, N6, N7, N8, N9, N10, N11, N12, N13, N14, N15, N16, N17, N18, N19, N20, N21, N22, N23, N24, N25, N26, N27, N28, N29, N30, N31, N32, N33, N34, N35, N36, N37, N38, N39, N40, N41, N42, N43, N45, N48, N57, N59, N88, N89, N97, N99, N120, N121, N122, N179, N200, N255, N300, N400, N880, N900, N999, N1019, N50000000, N100000000, N1000000000, N2147483647, N2147483648, e1, e2, hs, f_X3_leastUnitFee_51, f_X3_leastUnitFee_45]
    · have el : lf d v = d.fe v := by unfold lf; rw [if_neg c1, if_neg (fun q => c2 q.1)]
      rw [el]
      simp (disch := omega) only [↓reduceIte, gd_t, bd_s, nm_W, nm_I, I_add, I_sub, I_mul, I_neg, I_le_t, I_le_f, I_lt_t, I_lt_f, I_eq_t, I_eq_f, I_inb', I_ix', Int.toNat_natCast, decide_true, decide_false, Bool.not_false, Bool.not_true, if_true, if_false, wi_eq, wi_eq', wi_ne, wi_row, wi_2, N0, N1, N2, N3, N4, N5, N6, N7, N8, N9, N10, N11, N12, N13, N14, N15, N16, N17, N18, N19, N20, N21, N22, N23, N24, N25, N26, N27, N28, N29, N30, N31, N32, N33, N34, N35, N36, N37, N38, N39, N40, N41, N42, N43, N45, N48, N57, N59, N88, N89, N97, N99, N120, N121, N122, N179, N200, N255, N300, N400, N880, N900, N999, N1019, N50000000, N100000000, N1000000000, N2147483647, N2147483648, e1, e2, f_X3_leastUnitFee_51, f_X3_leastUnitFee_45]
theorem rWorth {σ : Wd} {V v k : Nat} {d : MD} (h : RV σ V d) (hd : MDok d V) (hv : v < V) (hk : k < d.lv v) : f_X7_worthAt (I (v : Int)) (I (k : Int)) σ = some (I (d.pr (6 * v + k) + lf d v), σ) := by
  have v5 : v < 5 := Nat.lt_of_lt_of_le hv hd.1
  obtain ⟨a, b, c, e, f, g⟩ := hd.2 v hv
  have e1 := (h.2 v hv).1
  have e2 := (h.2 v hv).2.2.1
  have e3 := ((h.2 v hv).2.2.2.2.2 k hk).1
  have p7 := price7 (σ := σ) v5 (show k < 6 by omega)
  have t7 := told7 (σ := σ) 0 v5 (by decide)
  rw [show 5 * v + 0 = 5 * v from rfl, e1] at t7
  rw [show (I ((0 : Nat) : Int)) = I 0 from rfl] at t7
  rw [e3] at p7
  have lo := half_low (σ := σ) c.1 c.2
  rw [N2] at lo
  have t1 : ((30 : Int) + (v : Int)).toNat = 30 + v := by omega
  unfold f_X7_worthAt
  by_cases c1 : d.kd v = 2
  · have el : lf d v = 0 := by unfold lf; rw [if_pos c1]
    rw [el]
    simp (disch := omega) only [↓reduceIte, gd_t, bd_s, nm_W, nm_I, I_add, I_sub, I_mul, I_neg, I_le_t, I_le_f, I_lt_t, I_lt_f, I_eq_t, I_eq_f, I_inb', I_ix', Int.toNat_natCast, decide_true, decide_false, Bool.not_false, Bool.not_true, if_true, if_false, wi_eq, wi_eq', wi_ne, wi_row, wi_2, N0, N1, N2, N3, N4, N5, N6, N7, N8, N9, N10, N11, N12, N13, N14, N15, N16, N17, N18, N19, N20, N21, N22, N23, N24, N25, N26, N27, N28, N29, N30, N31, N32, N33, N34, N35, N36, N37, N38, N39, N40, N41, N42, N43, N45, N48, N57, N59, N88, N89, N97, N99, N120, N121, N122, N179, N200, N255, N300, N400, N880, N900, N999, N1019, N50000000, N100000000, N1000000000, N2147483647, N2147483648, t7, p7, f_X7_worthAt_52, t1, e2]
  · by_cases c2 : d.kd v = 1
    · by_cases c3 : d.fe v / 2 < d.fe v
      · have el : lf d v = d.fe v / 2 := by unfold lf; rw [if_neg c1, if_pos ⟨c2, c3⟩]
        rw [el]
        simp (disch := omega) only [↓reduceIte, gd_t, bd_s, nm_W, nm_I, I_add, I_sub, I_mul, I_neg, I_le_t, I_le_f, I_lt_t, I_lt_f, I_eq_t, I_eq_f, I_inb', I_ix', Int.toNat_natCast, decide_true, decide_false, Bool.not_false, Bool.not_true, if_true, if_false, wi_eq, wi_eq', wi_ne, wi_row, wi_2, N0, N1, N2, N3, N4, N5, N6, N7, N8, N9, N10, N11, N12, N13, N14, N15, N16, N17, N18, N19, N20, N21, N22, N23, N24, N25, N26, N27, N28, N29, N30, N31, N32, N33, N34, N35, N36, N37, N38, N39, N40, N41, N42, N43, N45, N48, N57, N59, N88, N89, N97, N99, N120, N121, N122, N179, N200, N255, N300, N400, N880, N900, N999, N1019, N50000000, N100000000, N1000000000, N2147483647, N2147483648, t7, p7, f_X7_worthAt_52, t1, e2, lo]
      · have el : lf d v = d.fe v := by unfold lf; rw [if_neg c1, if_neg (fun q => c3 q.2)]
        rw [el]
        simp (disch := omega) only [↓reduceIte, gd_t, bd_s, nm_W, nm_I, I_add, I_sub, I_mul, I_neg, I_le_t, I_le_f, I_lt_t, I_lt_f, I_eq_t, I_eq_f, I_inb', I_ix', Int.toNat_natCast, decide_true, decide_false, Bool.not_false, Bool.not_true, if_true, if_false, wi_eq, wi_eq', wi_ne, wi_row, wi_2, N0, N1, N2, N3, N4, N5, N6, N7, N8, N9, N10, N11, N12, N13, N14, N15, N16, N17, N18, N19, N20, N21, N22, N23, N24, N25, N26, N27, N28, N29, N30, N31, N32, N33, N34, N35, N36, N37, N38, N39, N40, N41, N42, N43, N45, N48, N57, N59, N88, N89, N97, N99, N120, N121, N122, N179, N200, N255, N300, N400, N880, N900, N999, N1019, N50000000, N100000000, N1000000000, N2147483647, N2147483648, t7, p7, f_X7_worthAt_52, f_X7_worthAt_51, t1, e2, lo]
    · have el : lf d v = d.fe v := by unfold lf; rw [if_neg c1, if_neg (fun q => c2 q.1)]
      rw [el]
      simp (disch := omega) only [↓reduceIte, gd_t, bd_s, nm_W, nm_I, I_add, I_sub, I_mul, I_neg, I_le_t, I_le_f, I_lt_t, I_lt_f, I_eq_t, I_eq_f, I_inb', I_ix', Int.toNat_natCast, decide_true, decide_false, Bool.not_false, Bool.not_true, if_true, if_false, wi_eq, wi_eq', wi_ne, wi_row, wi_2, N0, N1, N2, N3, N4, N5, N6, N7, N8, N9, N10, N11, N12, N13, N14, N15, N16, N17, N18, N19, N20, N21, N22, N23, N24, N25, N26, N27, N28, N29, N30, N31, N32, N33, N34, N35, N36, N37, N38, N39, N40, N41, N42, N43, N45, N48, N57, N59, N88, N89, N97, N99, N120, N121, N122, N179, N200, N255, N300, N400, N880, N900, N999, N1019, N50000000, N100000000, N1000000000, N2147483647, N2147483648, t7, p7, f_X7_worthAt_52, f_X7_worthAt_51, t1, e2]
/-- units at venue v that are worth w each, of r levels from k on -/
def wk (d : MD) (p w : Int) (v : Nat) : Nat → Nat → Int
  | 0, _ => 0
  | r + 1, k => (if d.pr (6 * v + k) ≤ p ∧ d.pr (6 * v + k) + lf d v = w then d.sz (6 * v + k) else 0) + wk d p w v r (k + 1)
def wt (d : MD) (p w : Int) : Nat → Nat → Int
  | 0, _ => 0
  | r + 1, v => wk d p w v (d.lv v) 0 + wt d p w r (v + 1)
theorem lvOk_at {d : MD} {V v k : Nat} (hd : MDok d V) (hv : v < V) (hk : k < d.lv v) : 0 ≤ d.sz (6 * v + k) ∧ d.sz (6 * v + k) ≤ 99 ∧ 1 ≤ d.pr (6 * v + k) ∧ d.pr (6 * v + k) ≤ 999 :=
  (hd.2 v hv).2.2.2.2.2 (6 * v + k) (by omega) (by omega)
theorem r_uw1 {σ : Wd} {V v : Nat} {p w : Int} {d : MD} {k4 : Int32 → Int32 → Int32 → Wd → Option (Int32 × Wd)} (h : RV σ V d) (hd : MDok d V) (hv : v < V) (hp : R p) (hl : σ.1 102 12 = I p) (hw : R w) :
    ∀ (r k n : Nat) (acc z : Int), z = (k : Int) → r < n → k + r = d.lv v →
      f_X7_unitsWorth_15 k4 n (I w) (I acc) (I (v : Int)) (I z) σ = k4 (I w) (I (acc + wk d p w v r k)) (I ((v : Int) + 1)) σ
  | 0, k, n + 1, acc, z, hz, _, hk => by
    have v5 : v < 5 := Nat.lt_of_lt_of_le hv hd.1
    obtain ⟨-, -, -, -, f, -⟩ := hd.2 v hv
    have e1 := (h.2 v hv).2.2.2.2.1
    rw [f_X7_unitsWorth_15]
    simp (disch := omega) only [↓reduceIte, gd_t, bd_s, nm_W, nm_I, I_add, I_sub, I_mul, I_neg, I_le_t, I_le_f, I_lt_t, I_lt_f, I_eq_t, I_eq_f, I_inb', I_ix', Int.toNat_natCast, decide_true, decide_false, Bool.not_false, Bool.not_true, if_true, if_false, wi_eq, wi_eq', wi_ne, wi_row, wi_2, N0, N1, N2, N3, N4, N5, N6, N7, N8, N9, N10, N11, N12, N13, N14, N15, N16, N17, N18, N19, N20, N21, N22, N23, N24, N25, N26, N27, N28, N29, N30, N31, N32, N33, N34, N35, N36, N37, N38, N39, N40, N41, N42, N43, N45, N48, N57, N59, N88, N89, N97, N99, N120, N121, N122, N179, N200, N255, N300, N400, N880, N900, N999, N1019, N50000000, N100000000, N1000000000, N2147483647, N2147483648, levels7 (σ := σ) v5, e1, wk]
    rw [Int.add_zero]
  | r + 1, k, n + 1, acc, z, hz, hn, hk => by
    subst hz
    have v5 : v < 5 := Nat.lt_of_lt_of_le hv hd.1
    obtain ⟨-, -, -, -, f, -⟩ := hd.2 v hv
    have e1 := (h.2 v hv).2.2.2.2.1
    obtain ⟨e2, e3⟩ := (h.2 v hv).2.2.2.2.2 k (by omega)
    obtain ⟨s1, s2, p1, p2⟩ := lvOk_at hd hv (show k < d.lv v by omega)
    have lb := lf_bnd hd hv
    have p7 := price7 (σ := σ) v5 (show k < 6 by omega)
    have s7 := size7 (σ := σ) v5 (show k < 6 by omega)
    rw [e2] at p7
    rw [e3] at s7
    have w7 := rWorth h hd hv (show k < d.lv v by omega)
    have ih := fun acc => r_uw1 (k4 := k4) h hd hv hp hl hw r (k + 1) n acc ((k : Int) + 1) (by omega) (by omega) (by omega)
    unfold R at hp hw
    rw [wk]
    by_cases c1 : d.pr (6 * v + k) ≤ p
    · by_cases c2 : d.pr (6 * v + k) + lf d v = w
      · rw [if_pos ⟨c1, c2⟩, f_X7_unitsWorth_15]
        simp (disch := omega) only [↓reduceIte, gd_t, bd_s, nm_W, nm_I, I_add, I_sub, I_mul, I_neg, I_le_t, I_le_f, I_lt_t, I_lt_f, I_eq_t, I_eq_f, I_inb', I_ix', Int.toNat_natCast, decide_true, decide_false, Bool.not_false, Bool.not_true, if_true, if_false, wi_eq, wi_eq', wi_ne, wi_row, wi_2, N0, N1, N2, N3, N4, N5, N6, N7, N8, N9, N10, N11, N12, N13, N14, N15, N16, N17, N18, N19, N20, N21, N22, N23, N24, N25, N26, N27, N28, N29, N30, N31, N32, N33, N34, N35, N36, N37, N38, N39, N40, N41, N42, N43, N45, N48, N57, N59, N88, N89, N97, N99, N120, N121, N122, N179, N200, N255, N300, N400, N880, N900, N999, N1019, N50000000, N100000000, N1000000000, N2147483647, N2147483648, levels7 (σ := σ) v5, e1, p7, s7, w7, hl, f_X7_unitsWorth_62, ih]
        rw [Int.add_assoc]
      · rw [if_neg (fun q => c2 q.2), f_X7_unitsWorth_15]
        simp (disch := omega) only [↓reduceIte, gd_t, bd_s, nm_W, nm_I, I_add, I_sub, I_mul, I_neg, I_le_t, I_le_f, I_lt_t, I_lt_f, I_eq_t, I_eq_f, I_inb', I_ix', Int.toNat_natCast, decide_true, decide_false, Bool.not_false, Bool.not_true, if_true, if_false, wi_eq, wi_eq', wi_ne, wi_row, wi_2, N0, N1, N2, N3, N4, N5, N6, N7, N8, N9, N10, N11, N12, N13, N14, N15, N16, N17, N18, N19, N20, N21, N22, N23, N24, N25, N26, N27, N28, N29, N30, N31, N32, N33, N34, N35, N36, N37, N38, N39, N40, N41, N42, N43, N45, N48, N57, N59, N88, N89, N97, N99, N120, N121, N122, N179, N200, N255, N300, N400, N880, N900, N999, N1019, N50000000, N100000000, N1000000000, N2147483647, N2147483648, levels7 (σ := σ) v5, e1, p7, s7, w7, hl, f_X7_unitsWorth_62, f_X7_unitsWorth_61, ih]
        rw [Int.add_assoc]
    · rw [if_neg (fun q => c1 q.1), f_X7_unitsWorth_15]
      simp (disch := omega) only [↓reduceIte, gd_t, bd_s, nm_W, nm_I, I_add, I_sub, I_mul, I_neg, I_le_t, I_le_f, I_lt_t, I_lt_f, I_eq_t, I_eq_f, I_inb', I_ix', Int.toNat_natCast, decide_true, decide_false, Bool.not_false, Bool.not_true, if_true, if_false, wi_eq, wi_eq', wi_ne, wi_row, wi_2, N0, N1, N2, N3, N4, N5, N6, N7, N8, N9, N10, N11, N12, N13, N14, N15, N16, N17, N18, N19, N20, N21, N22, N23, N24, N25, N26, N27, N28, N29, N30, N31, N32, N33, N34, N35, N36, N37, N38, N39, N40, N41, N42, N43, N45, N48, N57, N59, N88, N89, N97, N99, N120, N121, N122, N179, N200, N255, N300, N400, N880, N900, N999, N1019, N50000000, N100000000, N1000000000, N2147483647, N2147483648, levels7 (σ := σ) v5, e1, p7, s7, w7, hl, f_X7_unitsWorth_62, f_X7_unitsWorth_61, ih]
      rw [Int.add_assoc]
theorem r_uw {σ : Wd} {V : Nat} {p w : Int} {d : MD} (h : RV σ V d) (hd : MDok d V) (hp : R p) (hl : σ.1 102 12 = I p) (hw : R w) :
    ∀ (r v n : Nat) (acc z : Int), z = (v : Int) → r < n → v + r = V →
      f_X7_unitsWorth_4 n (I w) (I acc) (I z) σ = some (I (acc + wt d p w r v), σ)
  | 0, v, n + 1, acc, z, hz, _, hv => by
    have h5 := hd.1
    rw [f_X7_unitsWorth_4]
    simp (disch := omega) only [↓reduceIte, gd_t, bd_s, nm_W, nm_I, I_add, I_sub, I_mul, I_neg, I_le_t, I_le_f, I_lt_t, I_lt_f, I_eq_t, I_eq_f, I_inb', I_ix', Int.toNat_natCast, decide_true, decide_false, Bool.not_false, Bool.not_true, if_true, if_false, wi_eq, wi_eq', wi_ne, wi_row, wi_2, N0, N1, N2, N3, N4, N5, N6, N7, N8, N9, N10, N11, N12, N13, N14, N15, N16, N17, N18, N19, N20, N21, N22, N23, N24, N25, N26, N27, N28, N29, N30, N31, N32, N33, N34, N35, N36, N37, N38, N39, N40, N41, N42, N43, N45, N48, N57, N59, N88, N89, N97, N99, N120, N121, N122, N179, N200, N255, N300, N400, N880, N900, N999, N1019, N50000000, N100000000, N1000000000, N2147483647, N2147483648, h.1, wt]
    rw [Int.add_zero]
  | r + 1, v, n + 1, acc, z, hz, hn, hv => by
    subst hz
    have h5 := hd.1
    obtain ⟨-, -, -, -, f, -⟩ := hd.2 v (by omega)
    have e := r_uw1 (k4 := f_X7_unitsWorth_4 n) h hd (show v < V by omega) hp hl hw (d.lv v) 0 FU acc 0 rfl (by show _ < 6000; omega) (by omega)
    rw [f_X7_unitsWorth_4, wt]
    simp (disch := omega) only [↓reduceIte, gd_t, bd_s, nm_W, nm_I, I_add, I_sub, I_mul, I_neg, I_le_t, I_le_f, I_lt_t, I_lt_f, I_eq_t, I_eq_f, I_inb', I_ix', Int.toNat_natCast, decide_true, decide_false, Bool.not_false, Bool.not_true, if_true, if_false, wi_eq, wi_eq', wi_ne, wi_row, wi_2, N0, N1, N2, N3, N4, N5, N6, N7, N8, N9, N10, N11, N12, N13, N14, N15, N16, N17, N18, N19, N20, N21, N22, N23, N24, N25, N26, N27, N28, N29, N30, N31, N32, N33, N34, N35, N36, N37, N38, N39, N40, N41, N42, N43, N45, N48, N57, N59, N88, N89, N97, N99, N120, N121, N122, N179, N200, N255, N300, N400, N880, N900, N999, N1019, N50000000, N100000000, N1000000000, N2147483647, N2147483648, h.1, e]
    rw [r_uw h hd hp hl hw r (v + 1) n _ _ (by omega) (by omega) (by omega), Int.add_assoc]
theorem rUW {σ : Wd} {V : Nat} {p w : Int} {d : MD} (h : RV σ V d) (hd : MDok d V) (hp : R p) (hl : σ.1 102 12 = I p) (hw : R w) : f_X7_unitsWorth (I w) σ = some (I (wt d p w V 0), σ) := by
  have h5 := hd.1
  have e := r_uw h hd hp hl hw V 0 FU 0 0 rfl (by show _ < 6000; omega) (by omega)
  rw [Int.zero_add] at e
  exact e
/-- the class: does a level count -/
theorem cCounts {m : Nat} {σ : Wd} {V v k : Nat} {p : Int} {d : MD} (h : CV m σ V d) (hd : MDok d V) (hv : v < V) (hk : k < d.lv v) (hp : R p) (hl : σ.1 m 1 = I p) :
    f_X0_counts m (I (v : Int)) (I (k : Int)) σ = some (I (if d.pr (6 * v + k) ≤ p ∧ 0 < d.sz (6 * v + k) then 1 else 0), σ) := by
  have v5 : v < 5 := Nat.lt_of_lt_of_le hv hd.1
  obtain ⟨-, -, -, -, f, -⟩ := hd.2 v hv
  obtain ⟨e2, e3⟩ := (h.2 v hv).2.2.2.2.2 k hk
  obtain ⟨s1, s2, p1, p2⟩ := lvOk_at hd hv hk
  have t1 : ((v : Int) * 6 + (k : Int)).toNat = 6 * v + k := by omega
  unfold R at hp
  unfold f_X0_counts
  by_cases c1 : d.pr (6 * v + k) ≤ p
  · by_cases c2 : 0 < d.sz (6 * v + k)
    · rw [if_pos ⟨c1, c2⟩]
      simp (disch := omega) only [↓reduceIte, gd_t, bd_s, nm_W, nm_I, I_add, I_sub, I_mul, I_neg, I_le_t, I_le_f, I_lt_t, I_lt_f, I_eq_t, I_eq_f, I_inb', I_ix', Int.toNat_natCast, decide_true, decide_false, Bool.not_false, Bool.not_true, if_true, if_false, wi_eq, wi_eq', wi_ne, wi_row, wi_2, N0, N1, N2, N3, N4, N5, N6, N7, N8, N9, N10, N11, N12, N13, N14, N15, N16, N17, N18, N19, N20, N21, N22, N23, N24, N25, N26, N27, N28, N29, N30, N31, N32, N33, N34, N35, N36, N37, N38, N39, N40, N41, N42, N43, N45, N48, N57, N59, N88, N89, N97, N99, N120, N121, N122, N179, N200, N255, N300, N400, N880, N900, N999, N1019, N50000000, N100000000, N1000000000, N2147483647, N2147483648, f_X6_slot, t1, hl, e2, e3, f_X0_counts_35]
      rfl
    · rw [if_neg (fun q => c2 q.2)]
      simp (disch := omega) only [↓reduceIte, gd_t, bd_s, nm_W, nm_I, I_add, I_sub, I_mul, I_neg, I_le_t, I_le_f, I_lt_t, I_lt_f, I_eq_t, I_eq_f, I_inb', I_ix', Int.toNat_natCast, decide_true, decide_false, Bool.not_false, Bool.not_true, if_true, if_false, wi_eq, wi_eq', wi_ne, wi_row, wi_2, N0, N1, N2, N3, N4, N5, N6, N7, N8, N9, N10, N11, N12, N13, N14, N15, N16, N17, N18, N19, N20, N21, N22, N23, N24, N25, N26, N27, N28, N29, N30, N31, N32, N33, N34, N35, N36, N37, N38, N39, N40, N41, N42, N43, N45, N48, N57, N59, N88, N89, N97, N99, N120, N121, N122, N179, N200, N255, N300, N400, N880, N900, N999, N1019, N50000000, N100000000, N1000000000, N2147483647, N2147483648, f_X6_slot, t1, hl, e2, e3, f_X0_counts_34, f_X0_counts_35]
      rfl
  · rw [if_neg (fun q => c1 q.1)]
    simp (disch := omega) only [↓reduceIte, gd_t, bd_s, nm_W, nm_I, I_add, I_sub, I_mul, I_neg, I_le_t, I_le_f, I_lt_t, I_lt_f, I_eq_t, I_eq_f, I_inb', I_ix', Int.toNat_natCast, decide_true, decide_false, Bool.not_false, Bool.not_true, if_true, if_false, wi_eq, wi_eq', wi_ne, wi_row, wi_2, N0, N1, N2, N3, N4, N5, N6, N7, N8, N9, N10, N11, N12, N13, N14, N15, N16, N17, N18, N19, N20, N21, N22, N23, N24, N25, N26, N27, N28, N29, N30, N31, N32, N33, N34, N35, N36, N37, N38, N39, N40, N41, N42, N43, N45, N48, N57, N59, N88, N89, N97, N99, N120, N121, N122, N179, N200, N255, N300, N400, N880, N900, N999, N1019, N50000000, N100000000, N1000000000, N2147483647, N2147483648, f_X6_slot, t1, hl, e2, e3, f_X0_counts_34, f_X0_counts_35]
    rfl
theorem c_um1 {m : Nat} {σ : Wd} {V v : Nat} {p w : Int} {d : MD} {k4 : Int32 → Int32 → Int32 → Wd → Option (Int32 × Wd)} (h : CV m σ V d) (hd : MDok d V) (hv : v < V) (hp : R p) (hl : σ.1 m 1 = I p) (hw : R w) :
    ∀ (r k n : Nat) (acc z : Int), z = (k : Int) → r < n → k + r = d.lv v →
      f_X0_unitsAtMarginal_15 m k4 n (I w) (I acc) (I (v : Int)) (I z) σ = k4 (I w) (I (acc + wk d p w v r k)) (I ((v : Int) + 1)) σ
  | 0, k, n + 1, acc, z, hz, _, hk => by
    have v5 : v < 5 := Nat.lt_of_lt_of_le hv hd.1
    obtain ⟨-, -, -, -, f, -⟩ := hd.2 v hv
    have e1 := (h.2 v hv).2.2.2.2.1
    rw [f_X0_unitsAtMarginal_15]
    simp (disch := omega) only [↓reduceIte, gd_t, bd_s, nm_W, nm_I, I_add, I_sub, I_mul, I_neg, I_le_t, I_le_f, I_lt_t, I_lt_f, I_eq_t, I_eq_f, I_inb', I_ix', Int.toNat_natCast, decide_true, decide_false, Bool.not_false, Bool.not_true, if_true, if_false, wi_eq, wi_eq', wi_ne, wi_row, wi_2, N0, N1, N2, N3, N4, N5, N6, N7, N8, N9, N10, N11, N12, N13, N14, N15, N16, N17, N18, N19, N20, N21, N22, N23, N24, N25, N26, N27, N28, N29, N30, N31, N32, N33, N34, N35, N36, N37, N38, N39, N40, N41, N42, N43, N45, N48, N57, N59, N88, N89, N97, N99, N120, N121, N122, N179, N200, N255, N300, N400, N880, N900, N999, N1019, N50000000, N100000000, N1000000000, N2147483647, N2147483648, e1, wk]
    rw [Int.add_zero]
  | r + 1, k, n + 1, acc, z, hz, hn, hk => by
    subst hz
    have v5 : v < 5 := Nat.lt_of_lt_of_le hv hd.1
    obtain ⟨-, -, -, -, f, -⟩ := hd.2 v hv
    have e1 := (h.2 v hv).2.2.2.2.1
    obtain ⟨e2, e3⟩ := (h.2 v hv).2.2.2.2.2 k (by omega)
    obtain ⟨s1, s2, p1, p2⟩ := lvOk_at hd hv (show k < d.lv v by omega)
    have lb := lf_bnd hd hv
    have t1 : ((v : Int) * 6 + (k : Int)).toNat = 6 * v + k := by omega
    have ct := cCounts h hd hv (show k < d.lv v by omega) hp hl
    have ih := fun acc => c_um1 (k4 := k4) h hd hv hp hl hw r (k + 1) n acc ((k : Int) + 1) (by omega) (by omega) (by omega)
    unfold R at hp hw
    rw [wk]
    by_cases c1 : d.pr (6 * v + k) ≤ p ∧ 0 < d.sz (6 * v + k)
    · rw [if_pos c1] at ct
      by_cases c2 : d.pr (6 * v + k) + lf d v = w
      · rw [if_pos ⟨c1.1, c2⟩, f_X0_unitsAtMarginal_15]
        simp (disch := omega) only [↓reduceIte, gd_t, bd_s, nm_W, nm_I, I_add, I_sub, I_mul, I_neg, I_le_t, I_le_f, I_lt_t, I_lt_f, I_eq_t, I_eq_f, I_inb', I_ix', Int.toNat_natCast, decide_true, decide_false, Bool.not_false, Bool.not_true, if_true, if_false, wi_eq, wi_eq', wi_ne, wi_row, wi_2, N0, N1, N2, N3, N4, N5, N6, N7, N8, N9, N10, N11, N12, N13, N14, N15, N16, N17, N18, N19, N20, N21, N22, N23, N24, N25, N26, N27, N28, N29, N30, N31, N32, N33, N34, N35, N36, N37, N38, N39, N40, N41, N42, N43, N45, N48, N57, N59, N88, N89, N97, N99, N120, N121, N122, N179, N200, N255, N300, N400, N880, N900, N999, N1019, N50000000, N100000000, N1000000000, N2147483647, N2147483648, e1, ct, f_X6_slot, t1, e2, e3, cLeastFee h hd hv, f_X0_unitsAtMarginal_71, ih]
        rw [Int.add_assoc]
      · rw [if_neg (fun q => c2 q.2), f_X0_unitsAtMarginal_15]
        simp (disch := omega) only [↓reduceIte, gd_t, bd_s, nm_W, nm_I, I_add, I_sub, I_mul, I_neg, I_le_t, I_le_f, I_lt_t, I_lt_f, I_eq_t, I_eq_f, I_inb', I_ix', Int.toNat_natCast, decide_true, decide_false, Bool.not_false, Bool.not_true, if_true, if_false, wi_eq, wi_eq', wi_ne, wi_row, wi_2, N0, N1, N2, N3, N4, N5, N6, N7, N8, N9, N10, N11, N12, N13, N14, N15, N16, N17, N18, N19, N20, N21, N22, N23, N24, N25, N26, N27, N28, N29, N30, N31, N32, N33, N34, N35, N36, N37, N38, N39, N40, N41, N42, N43, N45, N48, N57, N59, N88, N89, N97, N99, N120, N121, N122, N179, N200, N255, N300, N400, N880, N900, N999, N1019, N50000000, N100000000, N1000000000, N2147483647, N2147483648, e1, ct, f_X6_slot, t1, e2, e3, cLeastFee h hd hv, f_X0_unitsAtMarginal_71, ih]
        rw [Int.zero_add]
    · rw [if_neg c1] at ct
      have z0 : (if d.pr (6 * v + k) ≤ p ∧ d.pr (6 * v + k) + lf d v = w then d.sz (6 * v + k) else 0) = 0 := by
        split
        · omega
        · rfl
      rw [z0, f_X0_unitsAtMarginal_15]
      simp (disch := omega) only [↓reduceIte, gd_t, bd_s, nm_W, nm_I, I_add, I_sub, I_mul, I_neg, I_le_t, I_le_f, I_lt_t, I_lt_f, I_eq_t, I_eq_f, I_inb', I_ix', Int.toNat_natCast, decide_true, decide_false, Bool.not_false, Bool.not_true, if_true, if_false, wi_eq, wi_eq', wi_ne, wi_row, wi_2, N0, N1, N2, N3, N4, N5, N6, N7, N8, N9, N10, N11, N12, N13, N14, N15, N16, N17, N18, N19, N20, N21, N22, N23, N24, N25, N26, N27, N28, N29, N30, N31, N32, N33, N34, N35, N36, N37, N38, N39, N40, N41, N42, N43, N45, N48, N57, N59, N88, N89, N97, N99, N120, N121, N122, N179, N200, N255, N300, N400, N880, N900, N999, N1019, N50000000, N100000000, N1000000000, N2147483647, N2147483648, e1, ct, f_X0_unitsAtMarginal_71, ih]
      rw [Int.zero_add]
theorem c_um {m : Nat} {σ : Wd} {V : Nat} {p w : Int} {d : MD} (h : CV m σ V d) (hd : MDok d V) (hp : R p) (hl : σ.1 m 1 = I p) (hw : R w) :
    ∀ (r v n : Nat) (acc z : Int), z = (v : Int) → r < n → v + r = V →
      f_X0_unitsAtMarginal_4 m n (I w) (I acc) (I z) σ = some (I (acc + wt d p w r v), σ)
  | 0, v, n + 1, acc, z, hz, _, hv => by
    have h5 := hd.1
    rw [f_X0_unitsAtMarginal_4]
    simp (disch := omega) only [↓reduceIte, gd_t, bd_s, nm_W, nm_I, I_add, I_sub, I_mul, I_neg, I_le_t, I_le_f, I_lt_t, I_lt_f, I_eq_t, I_eq_f, I_inb', I_ix', Int.toNat_natCast, decide_true, decide_false, Bool.not_false, Bool.not_true, if_true, if_false, wi_eq, wi_eq', wi_ne, wi_row, wi_2, N0, N1, N2, N3, N4, N5, N6, N7, N8, N9, N10, N11, N12, N13, N14, N15, N16, N17, N18, N19, N20, N21, N22, N23, N24, N25, N26, N27, N28, N29, N30, N31, N32, N33, N34, N35, N36, N37, N38, N39, N40, N41, N42, N43, N45, N48, N57, N59, N88, N89, N97, N99, N120, N121, N122, N179, N200, N255, N300, N400, N880, N900, N999, N1019, N50000000, N100000000, N1000000000, N2147483647, N2147483648, h.1, wt]
    rw [Int.add_zero]
  | r + 1, v, n + 1, acc, z, hz, hn, hv => by
    subst hz
    have h5 := hd.1
    obtain ⟨-, -, -, -, f, -⟩ := hd.2 v (by omega)
    have e := c_um1 (k4 := f_X0_unitsAtMarginal_4 m n) h hd (show v < V by omega) hp hl hw (d.lv v) 0 FU acc 0 rfl (by show _ < 6000; omega) (by omega)
    rw [f_X0_unitsAtMarginal_4, wt]
    simp (disch := omega) only [↓reduceIte, gd_t, bd_s, nm_W, nm_I, I_add, I_sub, I_mul, I_neg, I_le_t, I_le_f, I_lt_t, I_lt_f, I_eq_t, I_eq_f, I_inb', I_ix', Int.toNat_natCast, decide_true, decide_false, Bool.not_false, Bool.not_true, if_true, if_false, wi_eq, wi_eq', wi_ne, wi_row, wi_2, N0, N1, N2, N3, N4, N5, N6, N7, N8, N9, N10, N11, N12, N13, N14, N15, N16, N17, N18, N19, N20, N21, N22, N23, N24, N25, N26, N27, N28, N29, N30, N31, N32, N33, N34, N35, N36, N37, N38, N39, N40, N41, N42, N43, N45, N48, N57, N59, N88, N89, N97, N99, N120, N121, N122, N179, N200, N255, N300, N400, N880, N900, N999, N1019, N50000000, N100000000, N1000000000, N2147483647, N2147483648, h.1, e]
    rw [c_um h hd hp hl hw r (v + 1) n _ _ (by omega) (by omega) (by omega), Int.add_assoc]
theorem cUM {m : Nat} {σ : Wd} {V : Nat} {p w : Int} {d : MD} (h : CV m σ V d) (hd : MDok d V) (hp : R p) (hl : σ.1 m 1 = I p) (hw : R w) : f_X0_unitsAtMarginal m (I w) σ = some (I (wt d p w V 0), σ) := by
  have h5 := hd.1
  have e := c_um h hd hp hl hw V 0 FU 0 0 rfl (by show _ < 6000; omega) (by omega)
  rw [Int.zero_add] at e
  exact e
end
section
/-! PURE: the next worth; bound and margin of class and reference -/
def cn (d : MD) (p : Int) (v k : Nat) : Prop := d.pr (6 * v + k) ≤ p ∧ 0 < d.sz (6 * v + k)
def CS (d : MD) (p : Int) (V : Nat) (w : Int) : Prop := ∃ v k, v < V ∧ k < d.lv v ∧ cn d p v k ∧ d.pr (6 * v + k) + lf d v = w
theorem CS_bnd {d : MD} {p w : Int} {V : Nat} (hd : MDok d V) (h : CS d p V w) : -8 ≤ w ∧ w ≤ 1008 := by
  obtain ⟨v, k, hv, hk, -, e⟩ := h
  have lb := lf_bnd hd hv
  obtain ⟨s1, s2, p1, p2⟩ := lvOk_at hd hv hk
  omega
theorem wk_bnd {d : MD} {p w : Int} {V v : Nat} (hd : MDok d V) (hv : v < V) : ∀ (r k : Nat), k + r ≤ d.lv v → 0 ≤ wk d p w v r k ∧ wk d p w v r k ≤ 99 * (r : Int)
  | 0, _, _ => ⟨Int.le_refl 0, Int.le_refl 0⟩
  | r + 1, k, h => by
    have ih := wk_bnd (p := p) (w := w) hd hv r (k + 1) (by omega)
    obtain ⟨s1, s2, p1, p2⟩ := lvOk_at hd hv (show k < d.lv v by omega)
    unfold wk
    split <;> omega
theorem wt_bnd {d : MD} {p w : Int} {V : Nat} (hd : MDok d V) : ∀ (r v : Nat), v + r ≤ V → 0 ≤ wt d p w r v ∧ wt d p w r v ≤ 594 * (r : Int)
  | 0, _, _ => ⟨Int.le_refl 0, Int.le_refl 0⟩
  | r + 1, v, h => by
    have ih := wt_bnd (p := p) (w := w) hd r (v + 1) (by omega)
    have b := wk_bnd (p := p) (w := w) hd (show v < V by omega) (d.lv v) 0 (by omega)
    obtain ⟨-, -, -, -, f, -⟩ := hd.2 v (by omega)
    unfold wt
    omega
theorem wk_pos {d : MD} {p w : Int} {V v : Nat} (hd : MDok d V) (hv : v < V) : ∀ (r k j : Nat), k + r ≤ d.lv v → k ≤ j → j < k + r → cn d p v j → d.pr (6 * v + j) + lf d v = w → 0 < wk d p w v r k
  | 0, k, j, _, h1, h2, _, _ => absurd h2 (by omega)
  | r + 1, k, j, h, h1, h2, hc, e => by
    have b := wk_bnd (p := p) (w := w) hd hv r (k + 1) (by omega)
    obtain ⟨s1, s2, p1, p2⟩ := lvOk_at hd hv (show k < d.lv v by omega)
    unfold wk
    by_cases c : j = k
    · subst c
      rw [if_pos ⟨hc.1, e⟩]
      have := hc.2
      omega
    · have ih := wk_pos hd hv r (k + 1) j (by omega) (by omega) (by omega) hc e
      split <;> omega
theorem wk_none {d : MD} {p w : Int} {V v : Nat} (hd : MDok d V) (hv : v < V) : ∀ (r k : Nat), k + r ≤ d.lv v → (∀ j, j < d.lv v → cn d p v j → d.pr (6 * v + j) + lf d v ≠ w) → wk d p w v r k = 0
  | 0, _, _, _ => rfl
  | r + 1, k, h, hn => by
    obtain ⟨s1, s2, p1, p2⟩ := lvOk_at hd hv (show k < d.lv v by omega)
    unfold wk
    rw [wk_none hd hv r (k + 1) (by omega) hn]
    split
    · rename_i c
      have : ¬ 0 < d.sz (6 * v + k) := fun q => hn k (by omega) ⟨c.1, q⟩ c.2
      omega
    · rfl
theorem wt_pos {d : MD} {p w : Int} {V : Nat} (hd : MDok d V) : ∀ (r v : Nat), v + r = V → (∃ a k, v ≤ a ∧ a < V ∧ k < d.lv a ∧ cn d p a k ∧ d.pr (6 * a + k) + lf d a = w) → 0 < wt d p w r v
  | 0, v, h, ⟨a, _, h1, h2, _⟩ => absurd h2 (by omega)
  | r + 1, v, h, ⟨a, k, h1, h2, h3, h4, h5⟩ => by
    have b := wt_bnd (p := p) (w := w) hd r (v + 1) (by omega)
    have b2 := wk_bnd (p := p) (w := w) hd (show v < V by omega) (d.lv v) 0 (by omega)
    unfold wt
    by_cases c : a = v
    · subst c
      have := wk_pos hd h2 (d.lv a) 0 k (by omega) (by omega) (by omega) h4 h5
      omega
    · have := wt_pos hd r (v + 1) (by omega) ⟨a, k, by omega, h2, h3, h4, h5⟩
      omega
theorem wt_none {d : MD} {p w : Int} {V : Nat} (hd : MDok d V) (hn : ¬ CS d p V w) : ∀ (r v : Nat), v + r = V → wt d p w r v = 0
  | 0, _, _ => rfl
  | r + 1, v, h => by
    unfold wt
    rw [wt_none hd hn r (v + 1) (by omega), wk_none hd (show v < V by omega) (d.lv v) 0 (by omega) (fun j hj hc e => hn ⟨v, j, by omega, hj, hc, e⟩)]
    rfl
theorem wt_CS {d : MD} {p w : Int} {V : Nat} (hd : MDok d V) : (0 < wt d p w V 0 ∧ CS d p V w) ∨ (wt d p w V 0 = 0 ∧ ¬ CS d p V w) := by
  by_cases c : CS d p V w
  · obtain ⟨v, k, h1, h2, h3, h4⟩ := c
    exact Or.inl ⟨wt_pos hd V 0 (by omega) ⟨v, k, by omega, h1, h2, h3, h4⟩, ⟨v, k, h1, h2, h3, h4⟩⟩
  · exact Or.inr ⟨wt_none hd c V 0 (by omega), c⟩
/-- the class: the next worth at one venue -/
theorem c_nm1 {m : Nat} {σ : Wd} {V v : Nat} {p ab : Int} {d : MD} {k5 : Int32 → Int32 → Int32 → Wd → Option (Int32 × Wd)} (h : CV m σ V d) (hd : MDok d V) (hv : v < V) (hp : R p) (hl : σ.1 m 1 = I p) (ha : R ab) :
    ∀ (r k n : Nat) (x z : Int), z = (k : Int) → r < n → k + r = d.lv v → R x →
      ∃ y, f_X0_nextMarginal_16 m k5 n (I ab) (I x) (I (v : Int)) (I z) σ = k5 (I ab) (I y) (I ((v : Int) + 1)) σ ∧ R y ∧ y ≤ x
        ∧ (y = x ∨ ∃ j, j < d.lv v ∧ cn d p v j ∧ ab < d.pr (6 * v + j) + lf d v ∧ y = d.pr (6 * v + j) + lf d v)
        ∧ (∀ j, k ≤ j → j < d.lv v → cn d p v j → ab < d.pr (6 * v + j) + lf d v → y ≤ d.pr (6 * v + j) + lf d v)
  | 0, k, n + 1, x, z, hz, _, hk, hx => by
    have v5 : v < 5 := Nat.lt_of_lt_of_le hv hd.1
    obtain ⟨-, -, -, -, f, -⟩ := hd.2 v hv
    have e1 := (h.2 v hv).2.2.2.2.1
    refine ⟨x, ?_, hx, Int.le_refl _, Or.inl rfl, fun j h1 h2 => absurd h2 (by omega)⟩
    rw [f_X0_nextMarginal_16]
    simp (disch := omega) only [↓reduceIte, gd_t, bd_s, nm_W, nm_I, I_add, I_sub, I_mul, I_neg, I_le_t, I_le_f, I_lt_t, I_lt_f, I_eq_t, I_eq_f, I_inb', I_ix', Int.toNat_natCast, decide_true, decide_false, Bool.not_false, Bool.not_true, if_true, if_false, wi_eq, wi_eq', wi_ne, wi_row, wi_2, N0, N1, N2, N3, N4, N5, N6, N7, N8, N9, N10, N11, N12, N13, N14, N15, N16, N17, N18, N19, N20, N21, N22, N23, N24, N25, N26, N27, N28, N29, N30, N31, N32, N33, N34, N35, N36, N37, N38, N39, N40, N41, N42, N43, N45, N48, N57, N59, N88, N89, N97, N99, N120, N121, N122, N179, N200, N255, N300, N400, N880, N900, N999, N1019, N50000000, N100000000, N1000000000, N2147483647, N2147483648, e1]
  | r + 1, k, n + 1, x, z, hz, hn, hk, hx => by
    subst hz
    have v5 : v < 5 := Nat.lt_of_lt_of_le hv hd.1
    obtain ⟨-, -, -, -, f, -⟩ := hd.2 v hv
    have e1 := (h.2 v hv).2.2.2.2.1
    have kl : k < d.lv v := by omega
    obtain ⟨e2, e3⟩ := (h.2 v hv).2.2.2.2.2 k kl
    obtain ⟨s1, s2, p1, p2⟩ := lvOk_at hd hv kl
    have lb := lf_bnd hd hv
    have t1 : ((v : Int) * 6 + (k : Int)).toNat = 6 * v + k := by omega
    have ct := cCounts h hd hv kl hp hl
    have ih := fun x (hx : R x) => c_nm1 (k5 := k5) h hd hv hp hl ha r (k + 1) n x ((k : Int) + 1) (by omega) (by omega) (by omega) hx
    have same : (cn d p v k → ab < d.pr (6 * v + k) + lf d v → x ≤ d.pr (6 * v + k) + lf d v) → f_X0_nextMarginal_16 m k5 (n + 1) (I ab) (I x) (I (v : Int)) (I (k : Int)) σ = f_X0_nextMarginal_16 m k5 n (I ab) (I x) (I (v : Int)) (I ((k : Int) + 1)) σ → ∃ y, f_X0_nextMarginal_16 m k5 (n + 1) (I ab) (I x) (I (v : Int)) (I (k : Int)) σ = k5 (I ab) (I y) (I ((v : Int) + 1)) σ ∧ R y ∧ y ≤ x
        ∧ (y = x ∨ ∃ j, j < d.lv v ∧ cn d p v j ∧ ab < d.pr (6 * v + j) + lf d v ∧ y = d.pr (6 * v + j) + lf d v)
        ∧ (∀ j, k ≤ j → j < d.lv v → cn d p v j → ab < d.pr (6 * v + j) + lf d v → y ≤ d.pr (6 * v + j) + lf d v) := by
      intro hs he
      obtain ⟨y, q1, q2, q3, q4, q5⟩ := ih x hx
      refine ⟨y, by rw [he, q1], q2, q3, q4, fun j h1 h2 h3 h4 => ?_⟩
      by_cases c : j = k
      · subst c
        have := hs h3 h4
        omega
      · exact q5 j (by omega) h2 h3 h4
    have ha' := ha
    have hx' := hx
    unfold R at hp ha' hx'
    by_cases c1 : d.pr (6 * v + k) ≤ p ∧ 0 < d.sz (6 * v + k)
    · rw [if_pos c1] at ct
      by_cases c2 : ab < d.pr (6 * v + k) + lf d v
      · by_cases c3 : d.pr (6 * v + k) + lf d v < x
        · obtain ⟨y, q1, q2, q3, q4, q5⟩ := ih (d.pr (6 * v + k) + lf d v) (by unfold R; omega)
          refine ⟨y, ?_, q2, by omega, ?_, fun j h1 h2 h3 h4 => ?_⟩
          · rw [← q1, f_X0_nextMarginal_16]
            simp (disch := omega) only [↓reduceIte, gd_t, bd_s, nm_W, nm_I, I_add, I_sub, I_mul, I_neg, I_le_t, I_le_f, I_lt_t, I_lt_f, I_eq_t, I_eq_f, I_inb', I_ix', Int.toNat_natCast, decide_true, decide_false, Bool.not_false, Bool.not_true, if_true, if_false, wi_eq, wi_eq', wi_ne, wi_row, wi_2, N0, N1, N2, N3, N4, N5, N6, N7, N8, N9, N10, N11, N12, N13, N14, N15, N16, N17, N18, N19, N20, N21, N22, N23, N24, N25, N26, N27, N28, N29, N30, N31, N32, N33, N34, N35, N36, N37, N38, N39, N40, N41, N42, N43, N45, N48, N57, N59, N88, N89, N97, N99, N120, N121, N122, N179, N200, N255, N300, N400, N880, N900, N999, N1019, N50000000, N100000000, N1000000000, N2147483647, N2147483648, e1, ct, f_X6_slot, t1, e2, cLeastFee h hd hv, f_X0_nextMarginal_71]
          · rcases q4 with q4 | q4
            · exact Or.inr ⟨k, kl, c1, c2, q4⟩
            · exact Or.inr q4
          · by_cases c : j = k
            · subst c; exact q3
            · exact q5 j (by omega) h2 h3 h4
        · refine same (fun _ _ => by omega) ?_
          rw [f_X0_nextMarginal_16]
          simp (disch := omega) only [↓reduceIte, gd_t, bd_s, nm_W, nm_I, I_add, I_sub, I_mul, I_neg, I_le_t, I_le_f, I_lt_t, I_lt_f, I_eq_t, I_eq_f, I_inb', I_ix', Int.toNat_natCast, decide_true, decide_false, Bool.not_false, Bool.not_true, if_true, if_false, wi_eq, wi_eq', wi_ne, wi_row, wi_2, N0, N1, N2, N3, N4, N5, N6, N7, N8, N9, N10, N11, N12, N13, N14, N15, N16, N17, N18, N19, N20, N21, N22, N23, N24, N25, N26, N27, N28, N29, N30, N31, N32, N33, N34, N35, N36, N37, N38, N39, N40, N41, N42, N43, N45, N48, N57, N59, N88, N89, N97, N99, N120, N121, N122, N179, N200, N255, N300, N400, N880, N900, N999, N1019, N50000000, N100000000, N1000000000, N2147483647, N2147483648, e1, ct, f_X6_slot, t1, e2, cLeastFee h hd hv, f_X0_nextMarginal_71]
      · refine same (fun _ q => absurd q c2) ?_
        rw [f_X0_nextMarginal_16]
        simp (disch := omega) only [↓reduceIte, gd_t, bd_s, nm_W, nm_I, I_add, I_sub, I_mul, I_neg, I_le_t, I_le_f, I_lt_t, I_lt_f, I_eq_t, I_eq_f, I_inb', I_ix', Int.toNat_natCast, decide_true, decide_false, Bool.not_false, Bool.not_true, if_true, if_false, wi_eq, wi_eq', wi_ne, wi_row, wi_2, N0, N1, N2, N3, N4, N5, N6, N7, N8, N9, N10, N11, N12, N13, N14, N15, N16, N17, N18, N19, N20, N21, N22, N23, N24, N25, N26, N27, N28, N29, N30, N31, N32, N33, N34, N35, N36, N37, N38, N39, N40, N41, N42, N43, N45, N48, N57, N59, N88, N89, N97, N99, N120, N121, N122, N179, N200, N255, N300, N400, N880, N900, N999, N1019, N50000000, N100000000, N1000000000, N2147483647, N2147483648, e1, ct, f_X6_slot, t1, e2, cLeastFee h hd hv, f_X0_nextMarginal_71]
    · rw [if_neg c1] at ct
      refine same (fun q _ => absurd q c1) ?_
      rw [f_X0_nextMarginal_16]
      simp (disch := omega) only [↓reduceIte, gd_t, bd_s, nm_W, nm_I, I_add, I_sub, I_mul, I_neg, I_le_t, I_le_f, I_lt_t, I_lt_f, I_eq_t, I_eq_f, I_inb', I_ix', Int.toNat_natCast, decide_true, decide_false, Bool.not_false, Bool.not_true, if_true, if_false, wi_eq, wi_eq', wi_ne, wi_row, wi_2, N0, N1, N2, N3, N4, N5, N6, N7, N8, N9, N10, N11, N12, N13, N14, N15, N16, N17, N18, N19, N20, N21, N22, N23, N24, N25, N26, N27, N28, N29, N30, N31, N32, N33, N34, N35, N36, N37, N38, N39, N40, N41, N42, N43, N45, N48, N57, N59, N88, N89, N97, N99, N120, N121, N122, N179, N200, N255, N300, N400, N880, N900, N999, N1019, N50000000, N100000000, N1000000000, N2147483647, N2147483648, e1, ct, f_X6_slot, t1, e2, cLeastFee h hd hv, f_X0_nextMarginal_71]
theorem c_nm {m : Nat} {σ : Wd} {V : Nat} {p ab : Int} {d : MD} (h : CV m σ V d) (hd : MDok d V) (hp : R p) (hl : σ.1 m 1 = I p) (ha : R ab) :
    ∀ (r v n : Nat) (x z : Int), z = (v : Int) → r < n → v + r = V → R x →
      ∃ y, f_X0_nextMarginal_5 m n (I ab) (I x) (I z) σ = some (I y, σ) ∧ R y ∧ y ≤ x ∧ (y = x ∨ (CS d p V y ∧ ab < y))
        ∧ (∀ a j, v ≤ a → a < V → j < d.lv a → cn d p a j → ab < d.pr (6 * a + j) + lf d a → y ≤ d.pr (6 * a + j) + lf d a)
  | 0, v, n + 1, x, z, hz, _, hv, hx => by
    have h5 := hd.1
    refine ⟨x, ?_, hx, Int.le_refl _, Or.inl rfl, fun a j h1 h2 => absurd h2 (by omega)⟩
    rw [f_X0_nextMarginal_5]
    simp (disch := omega) only [↓reduceIte, gd_t, bd_s, nm_W, nm_I, I_add, I_sub, I_mul, I_neg, I_le_t, I_le_f, I_lt_t, I_lt_f, I_eq_t, I_eq_f, I_inb', I_ix', Int.toNat_natCast, decide_true, decide_false, Bool.not_false, Bool.not_true, if_true, if_false, wi_eq, wi_eq', wi_ne, wi_row, wi_2, N0, N1, N2, N3, N4, N5, N6, N7, N8, N9, N10, N11, N12, N13, N14, N15, N16, N17, N18, N19, N20, N21, N22, N23, N24, N25, N26, N27, N28, N29, N30, N31, N32, N33, N34, N35, N36, N37, N38, N39, N40, N41, N42, N43, N45, N48, N57, N59, N88, N89, N97, N99, N120, N121, N122, N179, N200, N255, N300, N400, N880, N900, N999, N1019, N50000000, N100000000, N1000000000, N2147483647, N2147483648, h.1]
  | r + 1, v, n + 1, x, z, hz, hn, hv, hx => by
    subst hz
    have h5 := hd.1
    have hvV : v < V := by omega
    obtain ⟨-, -, -, -, f, -⟩ := hd.2 v hvV
    obtain ⟨y, q1, q2, q3, q4, q5⟩ := c_nm1 (k5 := f_X0_nextMarginal_5 m n) h hd hvV hp hl ha (d.lv v) 0 FU x 0 rfl (by show _ < 6000; omega) (by omega) hx
    obtain ⟨y2, w1, w2, w3, w4, w5⟩ := c_nm h hd hp hl ha r (v + 1) n y ((v : Int) + 1) (by omega) (by omega) (by omega) q2
    refine ⟨y2, ?_, w2, by omega, ?_, fun a j h1 h2 h3 h4 h5 => ?_⟩
    · rw [← w1, ← q1, f_X0_nextMarginal_5]
      simp (disch := omega) only [↓reduceIte, gd_t, bd_s, nm_W, nm_I, I_add, I_sub, I_mul, I_neg, I_le_t, I_le_f, I_lt_t, I_lt_f, I_eq_t, I_eq_f, I_inb', I_ix', Int.toNat_natCast, decide_true, decide_false, Bool.not_false, Bool.not_true, if_true, if_false, wi_eq, wi_eq', wi_ne, wi_row, wi_2, N0, N1, N2, N3, N4, N5, N6, N7, N8, N9, N10, N11, N12, N13, N14, N15, N16, N17, N18, N19, N20, N21, N22, N23, N24, N25, N26, N27, N28, N29, N30, N31, N32, N33, N34, N35, N36, N37, N38, N39, N40, N41, N42, N43, N45, N48, N57, N59, N88, N89, N97, N99, N120, N121, N122, N179, N200, N255, N300, N400, N880, N900, N999, N1019, N50000000, N100000000, N1000000000, N2147483647, N2147483648, h.1]
    · rcases w4 with w4 | w4
      · rcases q4 with q4 | ⟨j, g1, g2, g3, g4⟩
        · exact Or.inl (by omega)
        · exact Or.inr ⟨⟨v, j, hvV, g1, g2, by omega⟩, by omega⟩
      · exact Or.inr w4
    · by_cases c : a = v
      · subst c
        have := q5 j (by omega) h3 h4 h5
        omega
      · exact w5 a j (by omega) h2 h3 h4 h5
theorem cNM {m : Nat} {σ : Wd} {V : Nat} {p ab : Int} {d : MD} (h : CV m σ V d) (hd : MDok d V) (hp : R p) (hl : σ.1 m 1 = I p) (ha : R ab) :
    ∃ y, f_X0_nextMarginal m (I ab) σ = some (I y, σ) ∧ ((y = 2147483647 ∧ ∀ w, CS d p V w → ¬ ab < w) ∨ (CS d p V y ∧ ab < y ∧ ∀ w, CS d p V w → ab < w → y ≤ w)) := by
  have h5 := hd.1
  obtain ⟨y, q1, q2, q3, q4, q5⟩ := c_nm h hd hp hl ha V 0 FU 2147483647 0 rfl (by show _ < 6000; omega) (by omega) (by unfold R; omega)
  have lo : ∀ w, CS d p V w → ab < w → y ≤ w := by
    intro w hw hab
    obtain ⟨a, j, g1, g2, g3, g4⟩ := hw
    rw [← g4]
    exact q5 a j (by omega) g1 g2 g3 (by omega)
  refine ⟨y, q1, ?_⟩
  rcases q4 with q4 | ⟨q4, q6⟩
  · refine Or.inl ⟨q4, fun w hw hab => ?_⟩
    have := lo w hw hab
    have := CS_bnd hd hw
    omega
  · exact Or.inr ⟨q4, q6, lo⟩
/-- counted levels that are worth W or more -/
def ck (d : MD) (p W : Int) (v : Nat) : Nat → Nat → Nat
  | 0, _ => 0
  | r + 1, k => (if (d.pr (6 * v + k) ≤ p ∧ 0 < d.sz (6 * v + k)) ∧ W ≤ d.pr (6 * v + k) + lf d v then 1 else 0) + ck d p W v r (k + 1)
def ct (d : MD) (p W : Int) : Nat → Nat → Nat
  | 0, _ => 0
  | r + 1, v => ck d p W v (d.lv v) 0 + ct d p W r (v + 1)
theorem ck_le {d : MD} {p W : Int} {v : Nat} : ∀ (r k : Nat), ck d p W v r k ≤ r
  | 0, _ => Nat.le_refl _
  | r + 1, k => by
    have := ck_le (d := d) (p := p) (W := W) (v := v) r (k + 1)
    unfold ck
    split <;> omega
theorem ct_le {d : MD} {p W : Int} {V : Nat} (hd : MDok d V) : ∀ (r v : Nat), v + r = V → ct d p W r v ≤ 6 * r
  | 0, _, _ => Nat.le_refl _
  | r + 1, v, h => by
    have := ct_le (p := p) (W := W) hd r (v + 1) (by omega)
    have b := ck_le (d := d) (p := p) (W := W) (v := v) (d.lv v) 0
    obtain ⟨-, -, -, -, f, -⟩ := hd.2 v (by omega)
    unfold ct
    omega
theorem ck_mono {d : MD} {p W X : Int} {v : Nat} (h : W ≤ X) : ∀ (r k : Nat), ck d p X v r k ≤ ck d p W v r k
  | 0, _ => Nat.le_refl _
  | r + 1, k => by
    have := ck_mono (d := d) (p := p) (v := v) h r (k + 1)
    unfold ck
    split
    · rename_i c
      rw [if_pos ⟨c.1, by omega⟩]
      omega
    · omega
theorem ck_lt {d : MD} {p W x : Int} {v j : Nat} (h : W ≤ x) (hc : cn d p v j) (e : d.pr (6 * v + j) + lf d v = x) : ∀ (r k : Nat), k ≤ j → j < k + r → ck d p (x + 1) v r k + 1 ≤ ck d p W v r k
  | 0, k, h1, h2 => absurd h2 (by omega)
  | r + 1, k, h1, h2 => by
    unfold ck
    by_cases c : j = k
    · subst c
      have m := ck_mono (d := d) (p := p) (v := v) (show W ≤ x + 1 by omega) r (j + 1)
      rw [if_neg (fun q => absurd q.2 (by omega)), if_pos ⟨hc, by omega⟩]
      omega
    · have ih := ck_lt h hc e r (k + 1) (by omega) (by omega)
      split
      · rename_i c2
        rw [if_pos ⟨c2.1, by omega⟩]
        omega
      · omega
theorem ct_mono {d : MD} {p W X : Int} (h : W ≤ X) : ∀ (r v : Nat), ct d p X r v ≤ ct d p W r v
  | 0, _ => Nat.le_refl _
  | r + 1, v => by
    have := ct_mono (d := d) (p := p) h r (v + 1)
    have m := ck_mono (d := d) (p := p) (v := v) h (d.lv v) 0
    unfold ct
    omega
theorem ct_lt {d : MD} {p W x : Int} {a j : Nat} (h : W ≤ x) (hj : j < d.lv a) (hc : cn d p a j) (e : d.pr (6 * a + j) + lf d a = x) : ∀ (r v : Nat), v ≤ a → a < v + r → ct d p (x + 1) r v + 1 ≤ ct d p W r v
  | 0, v, h1, h2 => absurd h2 (by omega)
  | r + 1, v, h1, h2 => by
    unfold ct
    by_cases c : a = v
    · subst c
      have m := ct_mono (d := d) (p := p) (show W ≤ x + 1 by omega) r (a + 1)
      have l := ck_lt h hc e (d.lv a) 0 (by omega) (by omega)
      omega
    · have ih := ct_lt h hj hc e r (v + 1) (by omega) (by omega)
      have m := ck_mono (d := d) (p := p) (v := v) (show W ≤ x + 1 by omega) (d.lv v) 0
      omega
end
section
/-! PURE: bound and margin, whole -/
def bs (S : Int → Int) : Nat → Int → Int → Int
  | 0, _, _ => 0
  | r + 1, w, left => if left ≤ 0 then 0 else (if left ≤ S w then left else S w) * w + bs S r (w + 1) (left - (if left ≤ S w then left else S w))
def br (S : Int → Int) : Nat → Int → Int → Int → Int
  | 0, _, _, e => e
  | r + 1, w, left, e => if left ≤ 0 then e else br S r (w + 1) (left - (if left ≤ S w then left else S w)) (if S w = 0 then e else w)
theorem bs_done {S : Int → Int} {w left e : Int} (h : left ≤ 0) : ∀ r, bs S r w left = 0 ∧ br S r w left e = e
  | 0 => ⟨rfl, rfl⟩
  | r + 1 => by
    unfold bs br
    rw [if_pos h, if_pos h]
    exact ⟨rfl, rfl⟩
theorem bs_zero {S : Int → Int} {e left : Int} (hl : 0 < left) : ∀ (r : Nat) (w : Int), (∀ x, w ≤ x → x < w + r → S x = 0) → bs S r w left = 0 ∧ br S r w left e = e
  | 0, _, _ => ⟨rfl, rfl⟩
  | r + 1, w, h => by
    have s0 : S w = 0 := h w (by omega) (by omega)
    obtain ⟨i1, i2⟩ := bs_zero (S := S) (e := e) hl r (w + 1) (fun x h1 h2 => h x (by omega) (by omega))
    have hn : ¬ left ≤ 0 := by omega
    rw [bs, br]
    simp only [s0, if_neg hn, eq_self, if_true, Int.sub_zero, Int.zero_mul, Int.zero_add, i1, i2, and_self]
theorem bs_skip {S : Int → Int} {e left : Int} (hl : 0 < left) {r : Nat} : ∀ (k : Nat) (w : Int), (∀ x, w ≤ x → x < w + k → S x = 0) → bs S (r + k) w left = bs S r (w + k) left ∧ br S (r + k) w left e = br S r (w + k) left e
  | 0, w, _ => by
    rw [Nat.add_zero, show w + ((0 : Nat) : Int) = w from by omega]
    exact ⟨rfl, rfl⟩
  | k + 1, w, h => by
    have s0 : S w = 0 := h w (by omega) (by omega)
    obtain ⟨i1, i2⟩ := bs_skip (S := S) (e := e) hl (r := r) k (w + 1) (fun x h1 h2 => h x (by omega) (by omega))
    have hn : ¬ left ≤ 0 := by omega
    rw [show r + (k + 1) = (r + k) + 1 from rfl, bs, br]
    simp only [s0, if_neg hn, eq_self, if_true, Int.sub_zero, Int.zero_mul, Int.zero_add, i1, i2]
    rw [show w + 1 + (k : Int) = w + ((k + 1 : Nat) : Int) from by omega]
    exact ⟨rfl, rfl⟩
theorem r_bound {V : Nat} {p : Int} {d : MD} (hd : MDok d V) (hp : R p) :
    ∀ (r n : Nat) (w left sum e : Int) (σ : Wd), w + (r : Int) = 1020 → -20 ≤ w → r < n → 0 ≤ left → left ≤ 120 → RV σ V d → σ.1 102 12 = I p → σ.1 102 39 = I e →
      ∃ σ', f_X7_boundOf_14 n (I left) (I sum) (I w) σ = some (I (sum + bs (fun w => wt d p w V 0) r w left), σ') ∧ σ'.1 102 39 = I (br (fun w => wt d p w V 0) r w left e)
        ∧ (∀ k, k ≠ 102 → σ'.1 k = σ.1 k) ∧ (∀ i, i ≠ 39 → σ'.1 102 i = σ.1 102 i) ∧ σ'.2 = σ.2
  | 0, n + 1, w, left, sum, e, σ, hw, h2, hn, l0, l1, h, hl, he => by
    refine ⟨σ, ?_, he, fun _ _ => rfl, fun _ _ => rfl, rfl⟩
    rw [f_X7_boundOf_14]
    simp (disch := omega) only [↓reduceIte, gd_t, bd_s, nm_W, nm_I, I_add, I_sub, I_mul, I_neg, I_le_t, I_le_f, I_lt_t, I_lt_f, I_eq_t, I_eq_f, I_inb', I_ix', Int.toNat_natCast, decide_true, decide_false, Bool.not_false, Bool.not_true, if_true, if_false, wi_eq, wi_eq', wi_ne, wi_row, wi_2, N0, N1, N2, N3, N4, N5, N6, N7, N8, N9, N10, N11, N12, N13, N14, N15, N16, N17, N18, N19, N20, N21, N22, N23, N24, N25, N26, N27, N28, N29, N30, N31, N32, N33, N34, N35, N36, N37, N38, N39, N40, N41, N42, N43, N45, N48, N57, N59, N88, N89, N97, N99, N120, N121, N122, N179, N200, N255, N300, N400, N880, N900, N999, N1019, N50000000, N100000000, N1000000000, N2147483647, N2147483648, f_X7_boundOf_81, bs]
    rw [Int.add_zero]
  | r + 1, n + 1, w, left, sum, e, σ, hw, h2, hn, l0, l1, h, hl, he => by
    have h5 := hd.1
    have eu := rUW h hd hp hl (show R w by unfold R; omega)
    have sb := wt_bnd (p := p) (w := w) hd V 0 (by omega)
    by_cases c0 : left ≤ 0
    · refine ⟨σ, ?_, by rw [(bs_done c0 (r + 1)).2]; exact he, fun _ _ => rfl, fun _ _ => rfl, rfl⟩
      rw [f_X7_boundOf_14, (bs_done (e := e) c0 (r + 1)).1, Int.add_zero]
      simp (disch := omega) only [↓reduceIte, gd_t, bd_s, nm_W, nm_I, I_add, I_sub, I_mul, I_neg, I_le_t, I_le_f, I_lt_t, I_lt_f, I_eq_t, I_eq_f, I_inb', I_ix', Int.toNat_natCast, decide_true, decide_false, Bool.not_false, Bool.not_true, if_true, if_false, wi_eq, wi_eq', wi_ne, wi_row, wi_2, N0, N1, N2, N3, N4, N5, N6, N7, N8, N9, N10, N11, N12, N13, N14, N15, N16, N17, N18, N19, N20, N21, N22, N23, N24, N25, N26, N27, N28, N29, N30, N31, N32, N33, N34, N35, N36, N37, N38, N39, N40, N41, N42, N43, N45, N48, N57, N59, N88, N89, N97, N99, N120, N121, N122, N179, N200, N255, N300, N400, N880, N900, N999, N1019, N50000000, N100000000, N1000000000, N2147483647, N2147483648, f_X7_boundOf_81]
    · by_cases c1 : wt d p w V 0 = 0
      · obtain ⟨σ', q1, q2, q3, q4, q5⟩ := r_bound hd hp r n (w + 1) left sum e σ (by omega) (by omega) (by omega) l0 l1 h hl he
        refine ⟨σ', ?_, ?_, q3, q4, q5⟩
        · rw [bs, if_neg c0]
          simp only [c1, if_neg c0, Int.sub_zero, Int.zero_mul, Int.zero_add]
          rw [← q1, f_X7_boundOf_14]
          simp (disch := omega) only [↓reduceIte, gd_t, bd_s, nm_W, nm_I, I_add, I_sub, I_mul, I_neg, I_le_t, I_le_f, I_lt_t, I_lt_f, I_eq_t, I_eq_f, I_inb', I_ix', Int.toNat_natCast, decide_true, decide_false, Bool.not_false, Bool.not_true, if_true, if_false, wi_eq, wi_eq', wi_ne, wi_row, wi_2, N0, N1, N2, N3, N4, N5, N6, N7, N8, N9, N10, N11, N12, N13, N14, N15, N16, N17, N18, N19, N20, N21, N22, N23, N24, N25, N26, N27, N28, N29, N30, N31, N32, N33, N34, N35, N36, N37, N38, N39, N40, N41, N42, N43, N45, N48, N57, N59, N88, N89, N97, N99, N120, N121, N122, N179, N200, N255, N300, N400, N880, N900, N999, N1019, N50000000, N100000000, N1000000000, N2147483647, N2147483648, eu, c1, f_X7_boundOf_75]
        · rw [br, if_neg c0]
          simp only [c1, if_neg c0, Int.sub_zero, eq_self, if_true]
          exact q2
      · have h' : RV (wi σ 102 39 (I w)) V d := RV_congr h (by rw [wi_ne (by decide)]) (wi_row (by decide)) (wi_row (by decide)) (wi_row (by decide))
        obtain ⟨t, ht⟩ : ∃ t, t = (if left ≤ wt d p w V 0 then left else wt d p w V 0) := ⟨_, rfl⟩
        have tb : 0 ≤ left - t ∧ left - t ≤ 120 := by
          split at ht <;> omega
        obtain ⟨σ', q1, q2, q3, q4, q5⟩ := r_bound hd hp r n (w + 1) (left - t) (sum + t * w) w (wi σ 102 39 (I w)) (by omega) (by omega) (by omega) tb.1 tb.2 h' (by rw [wi_ne (by decide)]; exact hl) wi_eq
        refine ⟨σ', ?_, ?_, fun k hk => by rw [q3 k hk, wi_row hk], fun i hi => by rw [q4 i hi, wi_ne hi], by rw [q5, wi_2]⟩
        · rw [bs, if_neg c0]
          rw [← ht, ← Int.add_assoc, ← q1, f_X7_boundOf_14]
          by_cases c2 : left ≤ wt d p w V 0
          · rw [if_pos c2] at ht
            simp (disch := omega) only [↓reduceIte, gd_t, bd_s, nm_W, nm_I, I_add, I_sub, I_mul, I_neg, I_le_t, I_le_f, I_lt_t, I_lt_f, I_eq_t, I_eq_f, I_inb', I_ix', Int.toNat_natCast, decide_true, decide_false, Bool.not_false, Bool.not_true, if_true, if_false, wi_eq, wi_eq', wi_ne, wi_row, wi_2, N0, N1, N2, N3, N4, N5, N6, N7, N8, N9, N10, N11, N12, N13, N14, N15, N16, N17, N18, N19, N20, N21, N22, N23, N24, N25, N26, N27, N28, N29, N30, N31, N32, N33, N34, N35, N36, N37, N38, N39, N40, N41, N42, N43, N45, N48, N57, N59, N88, N89, N97, N99, N120, N121, N122, N179, N200, N255, N300, N400, N880, N900, N999, N1019, N50000000, N100000000, N1000000000, N2147483647, N2147483648, eu, f_X7_boundOf_60, f_X7_boundOf_75, ht]
          · rw [if_neg c2] at ht
            simp (disch := omega) only [↓reduceIte, gd_t, bd_s, nm_W, nm_I, I_add, I_sub, I_mul, I_neg, I_le_t, I_le_f, I_lt_t, I_lt_f, I_eq_t, I_eq_f, I_inb', I_ix', Int.toNat_natCast, decide_true, decide_false, Bool.not_false, Bool.not_true, if_true, if_false, wi_eq, wi_eq', wi_ne, wi_row, wi_2, N0, N1, N2, N3, N4, N5, N6, N7, N8, N9, N10, N11, N12, N13, N14, N15, N16, N17, N18, N19, N20, N21, N22, N23, N24, N25, N26, N27, N28, N29, N30, N31, N32, N33, N34, N35, N36, N37, N38, N39, N40, N41, N42, N43, N45, N48, N57, N59, N88, N89, N97, N99, N120, N121, N122, N179, N200, N255, N300, N400, N880, N900, N999, N1019, N50000000, N100000000, N1000000000, N2147483647, N2147483648, eu, f_X7_boundOf_60, f_X7_boundOf_75, ht]
        · rw [br, if_neg c0]
          rw [← ht, if_neg c1]
          exact q2
def bnd (d : MD) (p : Int) (V q : Nat) : Int := bs (fun w => wt d p w V 0) 1040 (-20) (q : Int)
def mrg (d : MD) (p : Int) (V q : Nat) : Int := br (fun w => wt d p w V 0) 1040 (-20) (q : Int) (-2147483648)
theorem rBound {σ : Wd} {V q : Nat} {p : Int} {d : MD} (hd : MDok d V) (hp : R p) (hq : q ≤ 120) (h : RV σ V d) (hl : σ.1 102 12 = I p) :
    ∃ σ', f_X7_boundOf (I (q : Int)) σ = some (I (bnd d p V q), σ') ∧ σ'.1 102 39 = I (mrg d p V q) ∧ (∀ k, k ≠ 102 → σ'.1 k = σ.1 k) ∧ (∀ i, i ≠ 39 → σ'.1 102 i = σ.1 102 i) ∧ σ'.2 = σ.2 := by
  have h' : RV (wi σ 102 39 (I (-2147483648))) V d := RV_congr h (by rw [wi_ne (by decide)]) (wi_row (by decide)) (wi_row (by decide)) (wi_row (by decide))
  obtain ⟨σ', q1, q2, q3, q4, q5⟩ := r_bound hd hp 1040 FU (-20) (q : Int) 0 (-2147483648) (wi σ 102 39 (I (-2147483648))) (by decide) (by decide) (by decide) (by omega) (by omega) h' (by rw [wi_ne (by decide)]; exact hl) wi_eq
  refine ⟨σ', ?_, q2, fun k hk => by rw [q3 k hk, wi_row hk], fun i hi => by rw [q4 i hi, wi_ne hi], by rw [q5, wi_2]⟩
  rw [Int.zero_add] at q1
  exact q1
theorem c_bound {m V : Nat} {p : Int} {d : MD} (hm : 10 < m) (hd : MDok d V) (hp : R p) :
    ∀ (r n i R1 : Nat) (z W ab left tot e : Int) (σ : Wd), z = (i : Int) → i + r = 30 → r < n → W + (R1 : Int) = 1020 → -20 ≤ W → R ab → (∀ w, CS d p V w → (ab < w ↔ W ≤ w)) → i + ct d p W V 0 ≤ 30 → 0 ≤ left → left ≤ 120 →
      CV m σ V d → σ.1 m 1 = I p → σ.1 10 0 = I tot → σ.1 10 1 = I e →
      ∃ σ', f_X0_measure_20 m n (I left) (I ab) (I z) σ = some (0, σ') ∧ σ'.1 10 0 = I (tot + bs (fun w => wt d p w V 0) R1 W left) ∧ σ'.1 10 1 = I (br (fun w => wt d p w V 0) R1 W left e)
        ∧ (∀ k, k ≠ 10 → σ'.1 k = σ.1 k) ∧ σ'.2 = σ.2
  | r, 0, i, R1, z, W, ab, left, tot, e, σ, hz, hi, hn, hW, hW2, hab, hcs, hct, l0, l1, h, hl, h0, h1 => absurd hn (by omega)
  | r, n + 1, i, R1, z, W, ab, left, tot, e, σ, hz, hi, hn, hW, hW2, hab, hcs, hct, l0, l1, h, hl, h0, h1 => by
    have h5 := hd.1
    by_cases c0 : left ≤ 0
    · refine ⟨σ, ?_, by rw [(bs_done (e := e) c0 R1).1, Int.add_zero]; exact h0, by rw [(bs_done c0 R1).2]; exact h1, fun _ _ => rfl, rfl⟩
      rw [f_X0_measure_20]
      by_cases c1 : 30 ≤ z
      · simp (disch := omega) only [↓reduceIte, gd_t, bd_s, nm_W, nm_I, I_add, I_sub, I_mul, I_neg, I_le_t, I_le_f, I_lt_t, I_lt_f, I_eq_t, I_eq_f, I_inb', I_ix', Int.toNat_natCast, decide_true, decide_false, Bool.not_false, Bool.not_true, if_true, if_false, wi_eq, wi_eq', wi_ne, wi_row, wi_2, N0, N1, N2, N3, N4, N5, N6, N7, N8, N9, N10, N11, N12, N13, N14, N15, N16, N17, N18, N19, N20, N21, N22, N23, N24, N25, N26, N27, N28, N29, N30, N31, N32, N33, N34, N35, N36, N37, N38, N39, N40, N41, N42, N43, N45, N48, N57, N59, N88, N89, N97, N99, N120, N121, N122, N179, N200, N255, N300, N400, N880, N900, N999, N1019, N50000000, N100000000, N1000000000, N2147483647, N2147483648, f_X0_measure_102]
      · simp (disch := omega) only [↓reduceIte, gd_t, bd_s, nm_W, nm_I, I_add, I_sub, I_mul, I_neg, I_le_t, I_le_f, I_lt_t, I_lt_f, I_eq_t, I_eq_f, I_inb', I_ix', Int.toNat_natCast, decide_true, decide_false, Bool.not_false, Bool.not_true, if_true, if_false, wi_eq, wi_eq', wi_ne, wi_row, wi_2, N0, N1, N2, N3, N4, N5, N6, N7, N8, N9, N10, N11, N12, N13, N14, N15, N16, N17, N18, N19, N20, N21, N22, N23, N24, N25, N26, N27, N28, N29, N30, N31, N32, N33, N34, N35, N36, N37, N38, N39, N40, N41, N42, N43, N45, N48, N57, N59, N88, N89, N97, N99, N120, N121, N122, N179, N200, N255, N300, N400, N880, N900, N999, N1019, N50000000, N100000000, N1000000000, N2147483647, N2147483648, f_X0_measure_102]
    · have none : (∀ w, CS d p V w → ¬ W ≤ w) → bs (fun w => wt d p w V 0) R1 W left = 0 ∧ br (fun w => wt d p w V 0) R1 W left e = e := by
        intro hno
        refine bs_zero (by omega) R1 W (fun x g1 g2 => ?_)
        rcases wt_CS (p := p) (w := x) hd with ⟨a, b⟩ | ⟨a, b⟩
        · exact absurd g1 (hno x b)
        · exact a
      by_cases c1 : 30 ≤ i
      · have hno : ∀ w, CS d p V w → ¬ W ≤ w := by
          intro w ⟨v, k, g1, g2, g3, g4⟩ g5
          have := ct_lt (d := d) (p := p) g5 g2 g3 g4 V 0 (by omega) (by omega)
          omega
        refine ⟨σ, ?_, by rw [(none hno).1, Int.add_zero]; exact h0, by rw [(none hno).2]; exact h1, fun _ _ => rfl, rfl⟩
        rw [f_X0_measure_20]
        simp (disch := omega) only [↓reduceIte, gd_t, bd_s, nm_W, nm_I, I_add, I_sub, I_mul, I_neg, I_le_t, I_le_f, I_lt_t, I_lt_f, I_eq_t, I_eq_f, I_inb', I_ix', Int.toNat_natCast, decide_true, decide_false, Bool.not_false, Bool.not_true, if_true, if_false, wi_eq, wi_eq', wi_ne, wi_row, wi_2, N0, N1, N2, N3, N4, N5, N6, N7, N8, N9, N10, N11, N12, N13, N14, N15, N16, N17, N18, N19, N20, N21, N22, N23, N24, N25, N26, N27, N28, N29, N30, N31, N32, N33, N34, N35, N36, N37, N38, N39, N40, N41, N42, N43, N45, N48, N57, N59, N88, N89, N97, N99, N120, N121, N122, N179, N200, N255, N300, N400, N880, N900, N999, N1019, N50000000, N100000000, N1000000000, N2147483647, N2147483648, f_X0_measure_102]
      · obtain ⟨y, y1, y2⟩ := cNM h hd hp hl hab
        rcases y2 with ⟨y2, y3⟩ | ⟨y2, y3, y4⟩
        · have hno : ∀ w, CS d p V w → ¬ W ≤ w := fun w hw g => y3 w hw ((hcs w hw).mpr g)
          have hny : ¬ CS d p V y := fun q => by
            have := CS_bnd hd q
            omega
          have eu := cUM h hd hp hl (show R y by unfold R; omega)
          rw [wt_none hd hny V 0 (by omega)] at eu
          refine ⟨σ, ?_, by rw [(none hno).1, Int.add_zero]; exact h0, by rw [(none hno).2]; exact h1, fun _ _ => rfl, rfl⟩
          rw [f_X0_measure_20]
          simp (disch := omega) only [↓reduceIte, gd_t, bd_s, nm_W, nm_I, I_add, I_sub, I_mul, I_neg, I_le_t, I_le_f, I_lt_t, I_lt_f, I_eq_t, I_eq_f, I_inb', I_ix', Int.toNat_natCast, decide_true, decide_false, Bool.not_false, Bool.not_true, if_true, if_false, wi_eq, wi_eq', wi_ne, wi_row, wi_2, N0, N1, N2, N3, N4, N5, N6, N7, N8, N9, N10, N11, N12, N13, N14, N15, N16, N17, N18, N19, N20, N21, N22, N23, N24, N25, N26, N27, N28, N29, N30, N31, N32, N33, N34, N35, N36, N37, N38, N39, N40, N41, N42, N43, N45, N48, N57, N59, N88, N89, N97, N99, N120, N121, N122, N179, N200, N255, N300, N400, N880, N900, N999, N1019, N50000000, N100000000, N1000000000, N2147483647, N2147483648, f_X0_measure_102, y1, eu]
        · have yb := CS_bnd hd y2
          have hWy : W ≤ y := (hcs y y2).mp y3
          have eu := cUM h hd hp hl (show R y by unfold R; omega)
          have sb := wt_bnd (p := p) (w := y) hd V 0 (by omega)
          have sp : 0 < wt d p y V 0 := by
            rcases wt_CS (p := p) (w := y) hd with ⟨a, b⟩ | ⟨a, b⟩
            · exact a
            · exact absurd y2 b
          have sk := bs_skip (S := fun w => wt d p w V 0) (e := e) (left := left) (by omega) (r := (1020 - y).toNat) (y - W).toNat W (fun x g1 g2 => by
            rcases wt_CS (p := p) (w := x) hd with ⟨a, b⟩ | ⟨a, b⟩
            · have := y4 x b ((hcs x b).mpr g1)
              omega
            · exact a)
          rw [show (1020 - y).toNat + (y - W).toNat = R1 from by omega, show W + ((y - W).toNat : Int) = y from by omega, show (1020 - y).toNat = (1020 - y - 1).toNat + 1 from by omega] at sk
          rw [sk.1, sk.2, bs, br, if_neg c0, if_neg c0]
          rw [if_neg (show ¬ wt d p y V 0 = 0 by omega)]
          obtain ⟨t, ht⟩ : ∃ t, t = (if left ≤ wt d p y V 0 then left else wt d p y V 0) := ⟨_, rfl⟩
          rw [← ht]
          have tb : 0 ≤ left - t ∧ left - t ≤ 120 := by
            split at ht <;> omega
          obtain ⟨a, j, g1, g2, g3, g4⟩ := y2
          have ctl := ct_lt (d := d) (p := p) hWy g2 g3 g4 V 0 (by omega) (by omega)
          obtain ⟨τ, hτ⟩ : ∃ τ, τ = wi (wi σ 10 0 (I (tot + t * y))) 10 1 (I y) := ⟨_, rfl⟩
          have ft : ∀ k, k ≠ 10 → τ.1 k = σ.1 k := fun k hk => by rw [hτ, wi_row hk, wi_row hk]
          obtain ⟨σ', q1, q2, q3, q4, q5⟩ := c_bound hm hd hp (r - 1) n (i + 1) (1020 - y - 1).toNat (z + 1) (y + 1) y (left - t) (tot + t * y) y τ (by omega) (by omega) (by omega) (by omega) (by omega) (by unfold R; omega)
            (fun w hw => by omega) (by omega) tb.1 tb.2 (CV_congr h (fun k hk => ft k (by omega))) (by rw [ft m (by omega)]; exact hl) (by rw [hτ, wi_ne (by decide), wi_eq]) (by rw [hτ, wi_eq])
          refine ⟨σ', ?_, by rw [q2, Int.add_assoc], q3, fun k hk => by rw [q4 k hk, ft k hk], by rw [q5, hτ, wi_2, wi_2]⟩
          rw [← q1, f_X0_measure_20]
          by_cases c2 : left ≤ wt d p y V 0
          · rw [if_pos c2] at ht
            simp (disch := omega) only [↓reduceIte, gd_t, bd_s, nm_W, nm_I, I_add, I_sub, I_mul, I_neg, I_le_t, I_le_f, I_lt_t, I_lt_f, I_eq_t, I_eq_f, I_inb', I_ix', Int.toNat_natCast, decide_true, decide_false, Bool.not_false, Bool.not_true, if_true, if_false, wi_eq, wi_eq', wi_ne, wi_row, wi_2, N0, N1, N2, N3, N4, N5, N6, N7, N8, N9, N10, N11, N12, N13, N14, N15, N16, N17, N18, N19, N20, N21, N22, N23, N24, N25, N26, N27, N28, N29, N30, N31, N32, N33, N34, N35, N36, N37, N38, N39, N40, N41, N42, N43, N45, N48, N57, N59, N88, N89, N97, N99, N120, N121, N122, N179, N200, N255, N300, N400, N880, N900, N999, N1019, N50000000, N100000000, N1000000000, N2147483647, N2147483648, y1, eu, f_X0_measure_65, h0]
            rw [hτ, ht]
          · rw [if_neg c2] at ht
            simp (disch := omega) only [↓reduceIte, gd_t, bd_s, nm_W, nm_I, I_add, I_sub, I_mul, I_neg, I_le_t, I_le_f, I_lt_t, I_lt_f, I_eq_t, I_eq_f, I_inb', I_ix', Int.toNat_natCast, decide_true, decide_false, Bool.not_false, Bool.not_true, if_true, if_false, wi_eq, wi_eq', wi_ne, wi_row, wi_2, N0, N1, N2, N3, N4, N5, N6, N7, N8, N9, N10, N11, N12, N13, N14, N15, N16, N17, N18, N19, N20, N21, N22, N23, N24, N25, N26, N27, N28, N29, N30, N31, N32, N33, N34, N35, N36, N37, N38, N39, N40, N41, N42, N43, N45, N48, N57, N59, N88, N89, N97, N99, N120, N121, N122, N179, N200, N255, N300, N400, N880, N900, N999, N1019, N50000000, N100000000, N1000000000, N2147483647, N2147483648, y1, eu, f_X0_measure_65, h0]
            rw [hτ, ht]
theorem cBound {m : Nat} {σ : Wd} {V q : Nat} {p : Int} {d : MD} (hm : 10 < m) (hd : MDok d V) (hp : R p) (hq : q ≤ 120) (h : CV m σ V d) (hl : σ.1 m 1 = I p) :
    ∃ σ', f_X0_measure m (I (q : Int)) σ = some (0, σ') ∧ σ'.1 10 0 = I (bnd d p V q) ∧ σ'.1 10 1 = I (mrg d p V q) ∧ (∀ k, k ≠ 10 → σ'.1 k = σ.1 k) ∧ σ'.2 = σ.2 := by
  have h5 := hd.1
  obtain ⟨τ, hτ⟩ : ∃ τ, τ = wi (wi σ 10 0 (I 0)) 10 1 (I (-2147483648)) := ⟨_, rfl⟩
  have ft : ∀ k, k ≠ 10 → τ.1 k = σ.1 k := fun k hk => by rw [hτ, wi_row hk, wi_row hk]
  have cl := ct_le (p := p) (W := -20) hd V 0 (by omega)
  obtain ⟨σ', q1, q2, q3, q4, q5⟩ := c_bound hm hd hp 30 FU 0 1040 0 (-20) (-2147483648) (q : Int) 0 (-2147483648) τ rfl rfl (by decide) (by decide) (by decide) (by unfold R; omega)
    (fun w hw => by have := CS_bnd hd hw; omega) (by omega) (by omega) (by omega) (CV_congr h (fun k hk => ft k (by omega))) (by rw [ft m (by omega)]; exact hl) (by rw [hτ, wi_ne (by decide), wi_eq]) (by rw [hτ, wi_eq])
  refine ⟨σ', ?_, by rw [q2, Int.zero_add]; rfl, q3, fun k hk => by rw [q4 k hk, ft k hk], by rw [q5, hτ, wi_2, wi_2]⟩
  rw [← q1, hτ]
  rfl
end
section
/-! PURE: the greedy split: a v lots at venue v -/
def gn (d : MD) (a : Nat → Nat) (v : Nat) : Int := ((a v * (d.lo v).toNat : Nat) : Int)
def nx (d : MD) (a : Nat → Nat) (v : Nat) : Int := cst d v (gn d a v + d.lo v) - cst d v (gn d a v)
def gs (d : MD) (p left : Int) (a : Nat → Nat) : Nat → Nat → Int → Int
  | 0, _, b => b
  | r + 1, v, b => gs d p left a r (v + 1) (if d.lo v ≤ left ∧ gn d a v + d.lo v ≤ dep d p v then (if b = -1 then (v : Int) else if nx d a v * d.lo b.toNat < nx d a b.toNat * d.lo v then (v : Int) else b) else b)
/-- what may be taken next -/
def okl (d : MD) (p left : Int) (a : Nat → Nat) (V : Nat) (b : Int) : Prop := b = -1 ∨ (0 ≤ b ∧ b < (V : Int) ∧ d.lo b.toNat ≤ left ∧ gn d a b.toNat + d.lo b.toNat ≤ dep d p b.toNat)
theorem gs_ok {d : MD} {p left : Int} {a : Nat → Nat} {V : Nat} : ∀ (r v : Nat) (b : Int), v + r = V → okl d p left a V b → okl d p left a V (gs d p left a r v b)
  | 0, _, _, _, h => h
  | r + 1, v, b, hv, h => by
    unfold gs
    refine gs_ok r (v + 1) _ (by omega) ?_
    split
    · rename_i c
      have hvb : okl d p left a V (v : Int) := Or.inr ⟨by omega, by omega, by rw [Int.toNat_natCast]; exact c.1, by rw [Int.toNat_natCast]; exact c.2⟩
      split
      · exact hvb
      · split
        · exact hvb
        · exact h
    · exact h
theorem gs_no {d : MD} {p left : Int} {a : Nat → Nat} {V : Nat} (hd : MDok d V) (h : left ≤ 0) : ∀ (r v : Nat), v + r = V → gs d p left a r v (-1) = -1
  | 0, _, _ => rfl
  | r + 1, v, hv => by
    obtain ⟨-, lb, -⟩ := hd.2 v (by omega)
    unfold gs
    rw [if_neg (fun q => absurd q.1 (by omega))]
    exact gs_no hd h r (v + 1) (by omega)
def GB (d : MD) (a : Nat → Nat) (V : Nat) (left : Int) (q : Nat) : Prop := 0 ≤ left ∧ q ≤ 120 ∧ ∀ v, v < V → gn d a v + left ≤ (q : Int)
theorem gn_nn {d : MD} {a : Nat → Nat} {v : Nat} : 0 ≤ gn d a v := by unfold gn; omega
theorem nx_bnd {d : MD} {V v : Nat} {a : Nat → Nat} {left : Int} {q : Nat} (hd : MDok d V) (hg : GB d a V left q) (hv : v < V) : -1100000 ≤ nx d a v ∧ nx d a v ≤ 1100000 := by
  obtain ⟨-, lb, -⟩ := hd.2 v hv
  have g0 := gn_nn (d := d) (a := a) (v := v)
  have g1 := hg.2.2 v hv
  have g2 := hg.2.1
  have g3 := hg.1
  have c1 := cst_bnd (n := gn d a v + d.lo v) hd hv (by omega) (by omega)
  have c2 := cst_bnd (n := gn d a v) hd hv (by omega) (by omega)
  unfold nx
  omega
theorem lo_mul {x l : Int} (h1 : -1100000 ≤ x) (h2 : x ≤ 1100000) (l1 : 1 ≤ l) (l2 : l ≤ 20) : -22000000 ≤ x * l ∧ x * l ≤ 22000000 := by
  have h : l = 1 ∨ l = 2 ∨ l = 3 ∨ l = 4 ∨ l = 5 ∨ l = 6 ∨ l = 7 ∨ l = 8 ∨ l = 9 ∨ l = 10 ∨ l = 11 ∨ l = 12 ∨ l = 13 ∨ l = 14 ∨ l = 15 ∨ l = 16 ∨ l = 17 ∨ l = 18 ∨ l = 19 ∨ l = 20 := by omega
  rcases h with h | h | h | h | h | h | h | h | h | h | h | h | h | h | h | h | h | h | h | h <;> subst h <;> omega
/-! the reference -/
theorem rNext {σ : Wd} {V v q : Nat} {d : MD} {a : Nat → Nat} {left : Int} (h : RV σ V d) (hd : MDok d V) (hv : v < V) (hg : GB d a V left q) (ha : σ.1 118 v = I (gn d a v)) : f_X7_nextCost (I (v : Int)) σ = some (I (nx d a v), σ) := by
  have v5 : v < 5 := Nat.lt_of_lt_of_le hv hd.1
  obtain ⟨-, lb, -⟩ := hd.2 v hv
  have g0 := gn_nn (d := d) (a := a) (v := v)
  have g1 := hg.2.2 v hv
  have g2 := hg.2.1
  have g3 := hg.1
  unfold f_X7_nextCost nx
  simp (disch := omega) only [↓reduceIte, gd_t, bd_s, nm_W, nm_I, I_add, I_sub, I_mul, I_neg, I_le_t, I_le_f, I_lt_t, I_lt_f, I_eq_t, I_eq_f, I_inb', I_ix', Int.toNat_natCast, decide_true, decide_false, Bool.not_false, Bool.not_true, if_true, if_false, wi_eq, wi_eq', wi_ne, wi_row, wi_2, N0, N1, N2, N3, N4, N5, N6, N7, N8, N9, N10, N11, N12, N13, N14, N15, N16, N17, N18, N19, N20, N21, N22, N23, N24, N25, N26, N27, N28, N29, N30, N31, N32, N33, N34, N35, N36, N37, N38, N39, N40, N41, N42, N43, N45, N48, N57, N59, N88, N89, N97, N99, N120, N121, N122, N179, N200, N255, N300, N400, N880, N900, N999, N1019, N50000000, N100000000, N1000000000, N2147483647, N2147483648, rLot h hd hv, ha, rCost h hd hv (n := gn d a v + d.lo v) (by omega) (by omega), rCost h hd hv (n := gn d a v) (by omega) (by omega)]
theorem r_gs {σ : Wd} {V q : Nat} {p left : Int} {d : MD} {a : Nat → Nat} (h : RV σ V d) (hd : MDok d V) (hp : R p) (hl : σ.1 102 12 = I p) (hg : GB d a V left q) (ha : ∀ v, v < V → σ.1 118 v = I (gn d a v)) :
    ∀ (r v n : Nat) (b z : Int), z = (v : Int) → r < n → v + r = V → okl d p left a V b →
      f_X7_nextGreedy_4 n (I left) (I b) (I z) σ = some (I (gs d p left a r v b), σ)
  | 0, v, n + 1, b, z, hz, _, hv, _ => by
    have h5 := hd.1
    rw [f_X7_nextGreedy_4]
    simp (disch := omega) only [↓reduceIte, gd_t, bd_s, nm_W, nm_I, I_add, I_sub, I_mul, I_neg, I_le_t, I_le_f, I_lt_t, I_lt_f, I_eq_t, I_eq_f, I_inb', I_ix', Int.toNat_natCast, decide_true, decide_false, Bool.not_false, Bool.not_true, if_true, if_false, wi_eq, wi_eq', wi_ne, wi_row, wi_2, N0, N1, N2, N3, N4, N5, N6, N7, N8, N9, N10, N11, N12, N13, N14, N15, N16, N17, N18, N19, N20, N21, N22, N23, N24, N25, N26, N27, N28, N29, N30, N31, N32, N33, N34, N35, N36, N37, N38, N39, N40, N41, N42, N43, N45, N48, N57, N59, N88, N89, N97, N99, N120, N121, N122, N179, N200, N255, N300, N400, N880, N900, N999, N1019, N50000000, N100000000, N1000000000, N2147483647, N2147483648, h.1, gs]
  | r + 1, v, n + 1, b, z, hz, hn, hv, hb => by
    subst hz
    have h5 := hd.1
    have hvV : v < V := by omega
    obtain ⟨-, lb, -⟩ := hd.2 v hvV
    have g0 := gn_nn (d := d) (a := a) (v := v)
    have g1 := hg.2.2 v hvV
    have g2 := hg.2.1
    have g3 := hg.1
    have db := dep_bnd (p := p) hd hvV
    have nb := nx_bnd hd hg hvV
    have ev := rNext h hd hvV hg (ha v hvV)
    have ih := fun b (hb : okl d p left a V b) => r_gs h hd hp hl hg ha r (v + 1) n b ((v : Int) + 1) (by omega) (by omega) (by omega) hb
    rw [gs]
    by_cases c1 : d.lo v ≤ left
    · by_cases c2 : gn d a v + d.lo v ≤ dep d p v
      · have hvb : okl d p left a V (v : Int) := Or.inr ⟨by omega, by omega, by rw [Int.toNat_natCast]; exact c1, by rw [Int.toNat_natCast]; exact c2⟩
        rw [if_pos ⟨c1, c2⟩]
        by_cases c3 : b = -1
        · rw [if_pos c3]
          rw [f_X7_nextGreedy_4]
          simp (disch := omega) only [↓reduceIte, gd_t, bd_s, nm_W, nm_I, I_add, I_sub, I_mul, I_neg, I_le_t, I_le_f, I_lt_t, I_lt_f, I_eq_t, I_eq_f, I_inb', I_ix', Int.toNat_natCast, decide_true, decide_false, Bool.not_false, Bool.not_true, if_true, if_false, wi_eq, wi_eq', wi_ne, wi_row, wi_2, N0, N1, N2, N3, N4, N5, N6, N7, N8, N9, N10, N11, N12, N13, N14, N15, N16, N17, N18, N19, N20, N21, N22, N23, N24, N25, N26, N27, N28, N29, N30, N31, N32, N33, N34, N35, N36, N37, N38, N39, N40, N41, N42, N43, N45, N48, N57, N59, N88, N89, N97, N99, N120, N121, N122, N179, N200, N255, N300, N400, N880, N900, N999, N1019, N50000000, N100000000, N1000000000, N2147483647, N2147483648, h.1, rLot h hd hvV, ha v hvV, rDepth h hd hvV hp hl, f_X7_nextGreedy_74, f_X7_nextGreedy_76]
          exact ih _ hvb
        · rw [if_neg c3]
          rcases hb with hb | ⟨b1, b2, b3, b4⟩
          · exact absurd hb c3
          · obtain ⟨w, rfl⟩ := Int.eq_ofNat_of_zero_le b1
            have hw : w < V := by omega
            rw [Int.toNat_natCast] at b3 b4 ⊢
            obtain ⟨-, lw, -⟩ := hd.2 w hw
            have nw := nx_bnd hd hg hw
            have ew := rNext h hd hw hg (ha w hw)
            have m1 := lo_mul nb.1 nb.2 lw.1 lw.2
            have m2 := lo_mul nw.1 nw.2 lb.1 lb.2
            by_cases c4 : nx d a v * d.lo w < nx d a w * d.lo v
            · rw [if_pos c4]
              rw [f_X7_nextGreedy_4]
              simp (disch := omega) only [↓reduceIte, gd_t, bd_s, nm_W, nm_I, I_add, I_sub, I_mul, I_neg, I_le_t, I_le_f, I_lt_t, I_lt_f, I_eq_t, I_eq_f, I_inb', I_ix', Int.toNat_natCast, decide_true, decide_false, Bool.not_false, Bool.not_true, if_true, if_false, wi_eq, wi_eq', wi_ne, wi_row, wi_2, N0, N1, N2, N3, N4, N5, N6, N7, N8, N9, N10, N11, N12, N13, N14, N15, N16, N17, N18, N19, N20, N21, N22, N23, N24, N25, N26, N27, N28, N29, N30, N31, N32, N33, N34, N35, N36, N37, N38, N39, N40, N41, N42, N43, N45, N48, N57, N59, N88, N89, N97, N99, N120, N121, N122, N179, N200, N255, N300, N400, N880, N900, N999, N1019, N50000000, N100000000, N1000000000, N2147483647, N2147483648, h.1, rLot h hd hvV, rLot h hd hw, ha v hvV, rDepth h hd hvV hp hl, ev, ew, f_X7_nextGreedy_74, f_X7_nextGreedy_76]
              exact ih _ hvb
            · rw [if_neg c4]
              rw [f_X7_nextGreedy_4]
              simp (disch := omega) only [↓reduceIte, gd_t, bd_s, nm_W, nm_I, I_add, I_sub, I_mul, I_neg, I_le_t, I_le_f, I_lt_t, I_lt_f, I_eq_t, I_eq_f, I_inb', I_ix', Int.toNat_natCast, decide_true, decide_false, Bool.not_false, Bool.not_true, if_true, if_false, wi_eq, wi_eq', wi_ne, wi_row, wi_2, N0, N1, N2, N3, N4, N5, N6, N7, N8, N9, N10, N11, N12, N13, N14, N15, N16, N17, N18, N19, N20, N21, N22, N23, N24, N25, N26, N27, N28, N29, N30, N31, N32, N33, N34, N35, N36, N37, N38, N39, N40, N41, N42, N43, N45, N48, N57, N59, N88, N89, N97, N99, N120, N121, N122, N179, N200, N255, N300, N400, N880, N900, N999, N1019, N50000000, N100000000, N1000000000, N2147483647, N2147483648, h.1, rLot h hd hvV, rLot h hd hw, ha v hvV, rDepth h hd hvV hp hl, ev, ew, f_X7_nextGreedy_74, f_X7_nextGreedy_76]
              exact ih _ (Or.inr ⟨b1, b2, by rw [Int.toNat_natCast]; exact b3, by rw [Int.toNat_natCast]; exact b4⟩)
      · rw [if_neg (fun q => c2 q.2)]
        rw [f_X7_nextGreedy_4]
        simp (disch := omega) only [↓reduceIte, gd_t, bd_s, nm_W, nm_I, I_add, I_sub, I_mul, I_neg, I_le_t, I_le_f, I_lt_t, I_lt_f, I_eq_t, I_eq_f, I_inb', I_ix', Int.toNat_natCast, decide_true, decide_false, Bool.not_false, Bool.not_true, if_true, if_false, wi_eq, wi_eq', wi_ne, wi_row, wi_2, N0, N1, N2, N3, N4, N5, N6, N7, N8, N9, N10, N11, N12, N13, N14, N15, N16, N17, N18, N19, N20, N21, N22, N23, N24, N25, N26, N27, N28, N29, N30, N31, N32, N33, N34, N35, N36, N37, N38, N39, N40, N41, N42, N43, N45, N48, N57, N59, N88, N89, N97, N99, N120, N121, N122, N179, N200, N255, N300, N400, N880, N900, N999, N1019, N50000000, N100000000, N1000000000, N2147483647, N2147483648, h.1, rLot h hd hvV, ha v hvV, rDepth h hd hvV hp hl, f_X7_nextGreedy_74, f_X7_nextGreedy_76]
        exact ih _ hb
    · rw [if_neg (fun q => c1 q.1)]
      rw [f_X7_nextGreedy_4]
      simp (disch := omega) only [↓reduceIte, gd_t, bd_s, nm_W, nm_I, I_add, I_sub, I_mul, I_neg, I_le_t, I_le_f, I_lt_t, I_lt_f, I_eq_t, I_eq_f, I_inb', I_ix', Int.toNat_natCast, decide_true, decide_false, Bool.not_false, Bool.not_true, if_true, if_false, wi_eq, wi_eq', wi_ne, wi_row, wi_2, N0, N1, N2, N3, N4, N5, N6, N7, N8, N9, N10, N11, N12, N13, N14, N15, N16, N17, N18, N19, N20, N21, N22, N23, N24, N25, N26, N27, N28, N29, N30, N31, N32, N33, N34, N35, N36, N37, N38, N39, N40, N41, N42, N43, N45, N48, N57, N59, N88, N89, N97, N99, N120, N121, N122, N179, N200, N255, N300, N400, N880, N900, N999, N1019, N50000000, N100000000, N1000000000, N2147483647, N2147483648, h.1, rLot h hd hvV, ha v hvV, rDepth h hd hvV hp hl, f_X7_nextGreedy_74, f_X7_nextGreedy_76]
      exact ih _ hb
theorem rGs {σ : Wd} {V q : Nat} {p left : Int} {d : MD} {a : Nat → Nat} (h : RV σ V d) (hd : MDok d V) (hp : R p) (hl : σ.1 102 12 = I p) (hg : GB d a V left q) (ha : ∀ v, v < V → σ.1 118 v = I (gn d a v)) :
    f_X7_nextGreedy (I left) σ = some (I (gs d p left a V 0 (-1)), σ) := by
  have h5 := hd.1
  have e := r_gs h hd hp hl hg ha V 0 FU (-1) 0 rfl (by show _ < 6000; omega) (by omega) (Or.inl rfl)
  unfold f_X7_nextGreedy
  rw [show (-1 : Int32) = I (-1) from rfl, show (0 : Int32) = I 0 from rfl]
  exact e
def bump (a : Nat → Nat) (v : Nat) : Nat → Nat := fun w => if w = v then a w + 1 else a w
def gr (d : MD) (p : Int) (V : Nat) : Nat → (Nat → Nat) → Int → (Nat → Nat) × Int
  | 0, a, left => (a, left)
  | n + 1, a, left => if gs d p left a V 0 (-1) = -1 then (a, left) else gr d p V n (bump a (gs d p left a V 0 (-1)).toNat) (left - d.lo (gs d p left a V 0 (-1)).toNat)
theorem gn_bump {d : MD} {a : Nat → Nat} {v : Nat} (h : 0 ≤ d.lo v) : gn d (bump a v) v = gn d a v + d.lo v := by
  unfold gn bump
  rw [if_pos rfl, Nat.succ_mul]
  omega
theorem gn_bump_ne {d : MD} {a : Nat → Nat} {v w : Nat} (h : w ≠ v) : gn d (bump a v) w = gn d a w := by
  unfold gn bump
  rw [if_neg h]
theorem GB_bump {d : MD} {a : Nat → Nat} {V v : Nat} {left : Int} {q : Nat} (hd : MDok d V) (hv : v < V) (hg : GB d a V left q) (hl : d.lo v ≤ left) : GB d (bump a v) V (left - d.lo v) q := by
  obtain ⟨-, lb, -⟩ := hd.2 v hv
  refine ⟨by omega, hg.2.1, fun w hw => ?_⟩
  have := hg.2.2 w hw
  by_cases c : w = v
  · subst c
    rw [gn_bump (by omega)]
    omega
  · rw [gn_bump_ne c]
    omega
/-- what r venues from v on cost -/
def sc (d : MD) (a : Nat → Nat) : Nat → Nat → Int
  | 0, _ => 0
  | r + 1, v => cst d v (gn d a v) + sc d a r (v + 1)
theorem sc_ne {d : MD} {a : Nat → Nat} {w : Nat} : ∀ (r v : Nat), w < v → sc d (bump a w) r v = sc d a r v
  | 0, _, _ => rfl
  | r + 1, v, h => by
    unfold sc
    rw [sc_ne r (v + 1) (by omega), gn_bump_ne (by omega)]
theorem sc_bump {d : MD} {a : Nat → Nat} {w : Nat} (hl : 0 ≤ d.lo w) : ∀ (r v : Nat), v ≤ w → w < v + r → sc d (bump a w) r v = sc d a r v + nx d a w
  | 0, v, h1, h2 => absurd h2 (by omega)
  | r + 1, v, h1, h2 => by
    unfold sc
    by_cases c : w = v
    · subst c
      rw [sc_ne r (w + 1) (by omega), gn_bump hl]
      unfold nx
      omega
    · rw [sc_bump hl r (v + 1) (by omega) (by omega), gn_bump_ne (by omega)]
      omega
def ub (d : MD) (a : Nat → Nat) : Nat → Nat → Int32 → Int32
  | 0, _, x => x
  | r + 1, v, x => ub d a r (v + 1) (if gn d a v ≤ 0 then x else x ||| ((1 : Int32) <<< (I (v : Int) &&& 31)))
theorem r_gend {σ : Wd} {V q : Nat} {left what : Int} {d : MD} {a : Nat → Nat} (h : RV σ V d) (hd : MDok d V) (hw : 0 ≤ what ∧ what ≤ 2) (hg : GB d a V left q) (ha : ∀ v, v < V → σ.1 118 v = I (gn d a v)) :
    ∀ (r v n : Nat) (c z : Int) (x : Int32), z = (v : Int) → r < n → v + r = V →
      f_X7_greedy_114 n (I (q : Int)) (I what) (I left) (I c) x (I z) σ = f_X7_greedy_190 (if what = 0 then I (c + sc d a r v) else if what = 1 then I ((q : Int) - left) else ub d a r v x) σ
  | 0, v, n + 1, c, z, x, hz, _, hv => by
    have h5 := hd.1
    rw [f_X7_greedy_114]
    by_cases c1 : what = 0
    · simp (disch := omega) only [↓reduceIte, gd_t, bd_s, nm_W, nm_I, I_add, I_sub, I_mul, I_neg, I_le_t, I_le_f, I_lt_t, I_lt_f, I_eq_t, I_eq_f, I_inb', I_ix', Int.toNat_natCast, decide_true, decide_false, Bool.not_false, Bool.not_true, if_true, if_false, wi_eq, wi_eq', wi_ne, wi_row, wi_2, N0, N1, N2, N3, N4, N5, N6, N7, N8, N9, N10, N11, N12, N13, N14, N15, N16, N17, N18, N19, N20, N21, N22, N23, N24, N25, N26, N27, N28, N29, N30, N31, N32, N33, N34, N35, N36, N37, N38, N39, N40, N41, N42, N43, N45, N48, N57, N59, N88, N89, N97, N99, N120, N121, N122, N179, N200, N255, N300, N400, N880, N900, N999, N1019, N50000000, N100000000, N1000000000, N2147483647, N2147483648, h.1]
      rw [if_pos c1, sc, Int.add_zero]
    · by_cases c2 : what = 1
      · simp (disch := omega) only [↓reduceIte, gd_t, bd_s, nm_W, nm_I, I_add, I_sub, I_mul, I_neg, I_le_t, I_le_f, I_lt_t, I_lt_f, I_eq_t, I_eq_f, I_inb', I_ix', Int.toNat_natCast, decide_true, decide_false, Bool.not_false, Bool.not_true, if_true, if_false, wi_eq, wi_eq', wi_ne, wi_row, wi_2, N0, N1, N2, N3, N4, N5, N6, N7, N8, N9, N10, N11, N12, N13, N14, N15, N16, N17, N18, N19, N20, N21, N22, N23, N24, N25, N26, N27, N28, N29, N30, N31, N32, N33, N34, N35, N36, N37, N38, N39, N40, N41, N42, N43, N45, N48, N57, N59, N88, N89, N97, N99, N120, N121, N122, N179, N200, N255, N300, N400, N880, N900, N999, N1019, N50000000, N100000000, N1000000000, N2147483647, N2147483648, h.1]
        rw [if_neg c1, if_pos c2]
      · simp (disch := omega) only [↓reduceIte, gd_t, bd_s, nm_W, nm_I, I_add, I_sub, I_mul, I_neg, I_le_t, I_le_f, I_lt_t, I_lt_f, I_eq_t, I_eq_f, I_inb', I_ix', Int.toNat_natCast, decide_true, decide_false, Bool.not_false, Bool.not_true, if_true, if_false, wi_eq, wi_eq', wi_ne, wi_row, wi_2, N0, N1, N2, N3, N4, N5, N6, N7, N8, N9, N10, N11, N12, N13, N14, N15, N16, N17, N18, N19, N20, N21, N22, N23, N24, N25, N26, N27, N28, N29, N30, N31, N32, N33, N34, N35, N36, N37, N38, N39, N40, N41, N42, N43, N45, N48, N57, N59, N88, N89, N97, N99, N120, N121, N122, N179, N200, N255, N300, N400, N880, N900, N999, N1019, N50000000, N100000000, N1000000000, N2147483647, N2147483648, h.1]
        rw [if_neg c1, if_neg c2]
        rfl
  | r + 1, v, n + 1, c, z, x, hz, hn, hv => by
    subst hz
    have h5 := hd.1
    have hvV : v < V := by omega
    have g0 := gn_nn (d := d) (a := a) (v := v)
    have g1 := hg.2.2 v hvV
    have g2 := hg.2.1
    have g3 := hg.1
    have ec := rCost h hd hvV (n := gn d a v) (by omega) (by omega)
    have ih := fun x => r_gend h hd hw hg ha r (v + 1) n (c + cst d v (gn d a v)) ((v : Int) + 1) x (by omega) (by omega) (by omega)
    rw [sc, ← Int.add_assoc, ub]
    by_cases c1 : gn d a v ≤ 0
    · rw [if_pos c1, ← ih, f_X7_greedy_114]
      simp (disch := omega) only [↓reduceIte, gd_t, bd_s, nm_W, nm_I, I_add, I_sub, I_mul, I_neg, I_le_t, I_le_f, I_lt_t, I_lt_f, I_eq_t, I_eq_f, I_inb', I_ix', Int.toNat_natCast, decide_true, decide_false, Bool.not_false, Bool.not_true, if_true, if_false, wi_eq, wi_eq', wi_ne, wi_row, wi_2, N0, N1, N2, N3, N4, N5, N6, N7, N8, N9, N10, N11, N12, N13, N14, N15, N16, N17, N18, N19, N20, N21, N22, N23, N24, N25, N26, N27, N28, N29, N30, N31, N32, N33, N34, N35, N36, N37, N38, N39, N40, N41, N42, N43, N45, N48, N57, N59, N88, N89, N97, N99, N120, N121, N122, N179, N200, N255, N300, N400, N880, N900, N999, N1019, N50000000, N100000000, N1000000000, N2147483647, N2147483648, h.1, ha v hvV, ec, f_X7_greedy_160]
    · rw [if_neg c1, ← ih, f_X7_greedy_114]
      simp (disch := omega) only [↓reduceIte, gd_t, bd_s, nm_W, nm_I, I_add, I_sub, I_mul, I_neg, I_le_t, I_le_f, I_lt_t, I_lt_f, I_eq_t, I_eq_f, I_inb', I_ix', Int.toNat_natCast, decide_true, decide_false, Bool.not_false, Bool.not_true, if_true, if_false, wi_eq, wi_eq', wi_ne, wi_row, wi_2, N0, N1, N2, N3, N4, N5, N6, N7, N8, N9, N10, N11, N12, N13, N14, N15, N16, N17, N18, N19, N20, N21, N22, N23, N24, N25, N26, N27, N28, N29, N30, N31, N32, N33, N34, N35, N36, N37, N38, N39, N40, N41, N42, N43, N45, N48, N57, N59, N88, N89, N97, N99, N120, N121, N122, N179, N200, N255, N300, N400, N880, N900, N999, N1019, N50000000, N100000000, N1000000000, N2147483647, N2147483648, h.1, ha v hvV, ec, f_X7_greedy_160]
theorem r_gr {V q : Nat} {p what : Int} {d : MD} (hd : MDok d V) (hp : R p) (hw : 0 ≤ what ∧ what ≤ 2) :
    ∀ (r n : Nat) (left : Int) (a : Nat → Nat) (σ : Wd), r < n → left ≤ (r : Int) → RV σ V d → σ.1 102 12 = I p → GB d a V left q → (∀ v, v < V → σ.1 118 v = I (gn d a v)) →
      ∃ σ', f_X7_greedy_61 n (I (q : Int)) (I what) (I left) (I (gs d p left a V 0 (-1))) σ = f_X7_greedy_190 (if what = 0 then I (sc d (gr d p V r a left).1 V 0) else if what = 1 then I ((q : Int) - (gr d p V r a left).2) else ub d (gr d p V r a left).1 V 0 0) σ'
        ∧ (∀ k, k ≠ 118 → σ'.1 k = σ.1 k) ∧ σ'.2 = σ.2
  | r, 0, left, a, σ, hn, hr, h, hl, hg, ha => absurd hn (by omega)
  | r, n + 1, left, a, σ, hn, hr, h, hl, hg, ha => by
    have h5 := hd.1
    have fin : gs d p left a V 0 (-1) = -1 → gr d p V r a left = (a, left) → ∃ σ', f_X7_greedy_61 (n + 1) (I (q : Int)) (I what) (I left) (I (gs d p left a V 0 (-1))) σ = f_X7_greedy_190 (if what = 0 then I (sc d (gr d p V r a left).1 V 0) else if what = 1 then I ((q : Int) - (gr d p V r a left).2) else ub d (gr d p V r a left).1 V 0 0) σ'
        ∧ (∀ k, k ≠ 118 → σ'.1 k = σ.1 k) ∧ σ'.2 = σ.2 := by
      intro e1 e2
      refine ⟨σ, ?_, fun _ _ => rfl, rfl⟩
      have e := r_gend h hd hw hg ha V 0 FU 0 0 0 rfl (by show _ < 6000; omega) (by omega)
      rw [Int.zero_add] at e
      rw [e2, ← e, f_X7_greedy_61, e1]
      simp (disch := omega) only [↓reduceIte, gd_t, bd_s, nm_W, nm_I, I_add, I_sub, I_mul, I_neg, I_le_t, I_le_f, I_lt_t, I_lt_f, I_eq_t, I_eq_f, I_inb', I_ix', Int.toNat_natCast, decide_true, decide_false, Bool.not_false, Bool.not_true, if_true, if_false, wi_eq, wi_eq', wi_ne, wi_row, wi_2, N0, N1, N2, N3, N4, N5, N6, N7, N8, N9, N10, N11, N12, N13, N14, N15, N16, N17, N18, N19, N20, N21, N22, N23, N24, N25, N26, N27, N28, N29, N30, N31, N32, N33, N34, N35, N36, N37, N38, N39, N40, N41, N42, N43, N45, N48, N57, N59, N88, N89, N97, N99, N120, N121, N122, N179, N200, N255, N300, N400, N880, N900, N999, N1019, N50000000, N100000000, N1000000000, N2147483647, N2147483648]
    by_cases c1 : gs d p left a V 0 (-1) = -1
    · refine fin c1 ?_
      cases r with
      | zero => rfl
      | succ r => rw [gr, if_pos c1]
    · cases r with
      | zero => exact absurd (gs_no hd (by omega) V 0 (by omega)) c1
      | succ r =>
        rcases gs_ok (d := d) (p := p) (left := left) (a := a) (V := V) V 0 (-1) (by omega) (Or.inl rfl) with hb | ⟨b1, b2, b3, b4⟩
        · exact absurd hb c1
        · rw [gr, if_neg c1]
          obtain ⟨w, ew⟩ := Int.eq_ofNat_of_zero_le b1
          rw [ew] at b2 b3 b4 ⊢
          rw [Int.toNat_natCast] at b3 b4 ⊢
          have hw' : w < V := by omega
          obtain ⟨-, lw, -⟩ := hd.2 w hw'
          have h' : RV (wi σ 118 w (I (gn d a w + d.lo w))) V d := RV_congr h (by rw [wi_row (by decide)]) (wi_row (by decide)) (wi_row (by decide)) (wi_row (by decide))
          have hl' : (wi σ 118 w (I (gn d a w + d.lo w))).1 102 12 = I p := by rw [wi_row (by decide)]; exact hl
          have hg' := GB_bump hd hw' hg b3
          have ha' : ∀ v, v < V → (wi σ 118 w (I (gn d a w + d.lo w))).1 118 v = I (gn d (bump a w) v) := by
            intro v hv
            by_cases c : v = w
            · subst c
              rw [wi_eq, gn_bump (by omega)]
            · rw [wi_ne c, gn_bump_ne c]
              exact ha v hv
          obtain ⟨σ', q1, q2, q3⟩ := r_gr hd hp hw r n (left - d.lo w) (bump a w) (wi σ 118 w (I (gn d a w + d.lo w))) (by omega) (by omega) h' hl' hg' ha'
          refine ⟨σ', ?_, fun k hk => by rw [q2 k hk, wi_row hk], by rw [q3, wi_2]⟩
          have e1 := rGs h' hd hp hl' hg' ha'
          rw [← q1, f_X7_greedy_61]
          simp (disch := omega) only [↓reduceIte, gd_t, bd_s, nm_W, nm_I, I_add, I_sub, I_mul, I_neg, I_le_t, I_le_f, I_lt_t, I_lt_f, I_eq_t, I_eq_f, I_inb', I_ix', Int.toNat_natCast, decide_true, decide_false, Bool.not_false, Bool.not_true, if_true, if_false, wi_eq, wi_eq', wi_ne, wi_row, wi_2, N0, N1, N2, N3, N4, N5, N6, N7, N8, N9, N10, N11, N12, N13, N14, N15, N16, N17, N18, N19, N20, N21, N22, N23, N24, N25, N26, N27, N28, N29, N30, N31, N32, N33, N34, N35, N36, N37, N38, N39, N40, N41, N42, N43, N45, N48, N57, N59, N88, N89, N97, N99, N120, N121, N122, N179, N200, N255, N300, N400, N880, N900, N999, N1019, N50000000, N100000000, N1000000000, N2147483647, N2147483648, rLot h hd hw', ha w hw', rLot h' hd hw', e1]
end
section
/-! PURE: the class' greedy split -/
theorem rm_iff {d : MD} {V v q : Nat} {p : Int} {a : Nat → Nat} {left : Int} (hd : MDok d V) (hv : v < V) (hg : GB d a V left q) (hl : d.lo v ≤ left) : gn d a v + d.lo v ≤ (rm d p (-1) q v : Int) ↔ gn d a v + d.lo v ≤ dep d p v := by
  obtain ⟨-, lb, -⟩ := hd.2 v hv
  have db := dep_bnd (p := p) hd hv
  have g1 := hg.2.2 v hv
  have l1 : 1 ≤ (d.lo v).toNat := by omega
  have e : gn d a v + d.lo v = (((a v + 1) * (d.lo v).toNat : Nat) : Int) := by
    unfold gn
    rw [Nat.succ_mul]
    omega
  have k : rm d p (-1) q v = min q (dep d p v).toNat / (d.lo v).toNat * (d.lo v).toNat := by
    unfold rm kx
    rw [if_neg (by omega)]
  obtain ⟨k1, k2⟩ := div_box (M := min q (dep d p v).toNat) l1
  rw [e, k]
  constructor
  · intro h
    omega
  · intro h
    have : (a v + 1) * (d.lo v).toNat ≤ min q (dep d p v).toNat := by omega
    have := Nat.mul_le_mul_right (d.lo v).toNat ((Nat.le_div_iff_mul_le (by omega)).mpr this)
    omega
theorem cNext {σ : Wd} {V v q : Nat} {p : Int} {d : MD} {a : Nat → Nat} {left : Int} (hd : MDok d V) (hv : v < V) (hg : GB d a V left q) (ha : σ.1 5 v = I (gn d a v)) (hr : PR d p (-1) V q σ) (hl : d.lo v ≤ left) (hdp : gn d a v + d.lo v ≤ dep d p v) :
    f_X1_nextLotCost (I (v : Int)) (I (d.lo v)) σ = some (I (nx d a v), σ) := by
  have v5 : v < 5 := Nat.lt_of_lt_of_le hv hd.1
  obtain ⟨-, lb, -⟩ := hd.2 v hv
  have g0 := gn_nn (d := d) (a := a) (v := v)
  have g1 := hg.2.2 v hv
  have g2 := hg.2.1
  have g3 := hg.1
  have hrm := (rm_iff (p := p) hd hv hg hl).mpr hdp
  have l1 : 1 ≤ (d.lo v).toNat := by omega
  have e : gn d a v + d.lo v = (((a v + 1) * (d.lo v).toNat : Nat) : Int) := by
    unfold gn
    rw [Nat.succ_mul]
    omega
  have ak : a v + 1 ≤ kx d p (-1) v q := by
    have : (a v + 1) * (d.lo v).toNat ≤ kx d p (-1) v q * (d.lo v).toNat := by
      rw [e] at hrm
      unfold rm at hrm
      omega
    exact Nat.le_of_mul_le_mul_right this (by omega)
  have e1 := (hr v hv).2 (a v + 1) ak
  have e2 := (hr v hv).2 (a v) (by omega)
  rw [← e] at e1
  rw [show ((a v * (d.lo v).toNat : Nat) : Int) = gn d a v from rfl] at e2
  have t1 : ((v : Int) * 121 + gn d a v + d.lo v).toNat = 121 * v + (a v + 1) * (d.lo v).toNat := by omega
  have t2 : ((v : Int) * 121 + gn d a v).toNat = 121 * v + a v * (d.lo v).toNat := by unfold gn; omega
  unfold f_X1_nextLotCost nx
  simp (disch := omega) only [↓reduceIte, gd_t, bd_s, nm_W, nm_I, I_add, I_sub, I_mul, I_neg, I_le_t, I_le_f, I_lt_t, I_lt_f, I_eq_t, I_eq_f, I_inb', I_ix', Int.toNat_natCast, decide_true, decide_false, Bool.not_false, Bool.not_true, if_true, if_false, wi_eq, wi_eq', wi_ne, wi_row, wi_2, N0, N1, N2, N3, N4, N5, N6, N7, N8, N9, N10, N11, N12, N13, N14, N15, N16, N17, N18, N19, N20, N21, N22, N23, N24, N25, N26, N27, N28, N29, N30, N31, N32, N33, N34, N35, N36, N37, N38, N39, N40, N41, N42, N43, N45, N48, N57, N59, N88, N89, N97, N99, N120, N121, N122, N179, N200, N255, N300, N400, N880, N900, N999, N1019, N50000000, N100000000, N1000000000, N2147483647, N2147483648, ha, t1, t2, e1, e2]
theorem c_gs {m : Nat} {σ : Wd} {V q : Nat} {p left : Int} {d : MD} {a : Nat → Nat} (h : CV m σ V d) (hd : MDok d V) (hg : GB d a V left q) (ha : ∀ v, v < V → σ.1 5 v = I (gn d a v)) (hr : PR d p (-1) V q σ) :
    ∀ (r v n : Nat) (b xc xl z : Int), z = (v : Int) → r < n → v + r = V → okl d p left a V b → (b ≠ -1 → xc = nx d a b.toNat ∧ xl = d.lo b.toNat) →
      f_X1_cheapestNextLot_11 m n (I left) (I b) (I xc) (I xl) (I z) σ = some (I (gs d p left a r v b), σ)
  | 0, v, n + 1, b, xc, xl, z, hz, _, hv, _, _ => by
    have h5 := hd.1
    rw [f_X1_cheapestNextLot_11]
    simp (disch := omega) only [↓reduceIte, gd_t, bd_s, nm_W, nm_I, I_add, I_sub, I_mul, I_neg, I_le_t, I_le_f, I_lt_t, I_lt_f, I_eq_t, I_eq_f, I_inb', I_ix', Int.toNat_natCast, decide_true, decide_false, Bool.not_false, Bool.not_true, if_true, if_false, wi_eq, wi_eq', wi_ne, wi_row, wi_2, N0, N1, N2, N3, N4, N5, N6, N7, N8, N9, N10, N11, N12, N13, N14, N15, N16, N17, N18, N19, N20, N21, N22, N23, N24, N25, N26, N27, N28, N29, N30, N31, N32, N33, N34, N35, N36, N37, N38, N39, N40, N41, N42, N43, N45, N48, N57, N59, N88, N89, N97, N99, N120, N121, N122, N179, N200, N255, N300, N400, N880, N900, N999, N1019, N50000000, N100000000, N1000000000, N2147483647, N2147483648, h.1, gs]
  | r + 1, v, n + 1, b, xc, xl, z, hz, hn, hv, hb, hx => by
    subst hz
    have h5 := hd.1
    have hvV : v < V := by omega
    obtain ⟨-, lb, -⟩ := hd.2 v hvV
    have g0 := gn_nn (d := d) (a := a) (v := v)
    have g1 := hg.2.2 v hvV
    have g2 := hg.2.1
    have g3 := hg.1
    have db := dep_bnd (p := p) hd hvV
    have nb := nx_bnd hd hg hvV
    have rb := rm_le (p := p) (but := -1) (q := q) hd hvV
    have ih := fun b xc xl (hb : okl d p left a V b) hx => c_gs (p := p) h hd hg ha hr r (v + 1) n b xc xl ((v : Int) + 1) (by omega) (by omega) (by omega) hb hx
    rw [gs]
    by_cases c1 : d.lo v ≤ left
    · have ri := rm_iff (p := p) hd hvV hg c1
      by_cases c2 : gn d a v + d.lo v ≤ dep d p v
      · have hvb : okl d p left a V (v : Int) := Or.inr ⟨by omega, by omega, by rw [Int.toNat_natCast]; exact c1, by rw [Int.toNat_natCast]; exact c2⟩
        have ev := cNext hd hvV hg (ha v hvV) hr c1 c2
        have c2' := ri.mpr c2
        rw [if_pos ⟨c1, c2⟩]
        by_cases c3 : b = -1
        · rw [if_pos c3]
          rw [f_X1_cheapestNextLot_11]
          simp (disch := omega) only [↓reduceIte, gd_t, bd_s, nm_W, nm_I, I_add, I_sub, I_mul, I_neg, I_le_t, I_le_f, I_lt_t, I_lt_f, I_eq_t, I_eq_f, I_inb', I_ix', Int.toNat_natCast, decide_true, decide_false, Bool.not_false, Bool.not_true, if_true, if_false, wi_eq, wi_eq', wi_ne, wi_row, wi_2, N0, N1, N2, N3, N4, N5, N6, N7, N8, N9, N10, N11, N12, N13, N14, N15, N16, N17, N18, N19, N20, N21, N22, N23, N24, N25, N26, N27, N28, N29, N30, N31, N32, N33, N34, N35, N36, N37, N38, N39, N40, N41, N42, N43, N45, N48, N57, N59, N88, N89, N97, N99, N120, N121, N122, N179, N200, N255, N300, N400, N880, N900, N999, N1019, N50000000, N100000000, N1000000000, N2147483647, N2147483648, h.1, cLot h hd hvV, ha v hvV, (hr v hvV).1, ev, f_X1_cheapestNextLot_85, f_X1_cheapestNextLot_96]
          exact ih _ _ _ hvb (fun _ => ⟨by rw [Int.toNat_natCast], by rw [Int.toNat_natCast]⟩)
        · rw [if_neg c3]
          obtain ⟨x1, x2⟩ := hx c3
          rcases hb with hb | ⟨b1, b2, b3, b4⟩
          · exact absurd hb c3
          · obtain ⟨w, rfl⟩ := Int.eq_ofNat_of_zero_le b1
            have hw : w < V := by omega
            rw [Int.toNat_natCast] at b3 b4 x1 x2 ⊢
            obtain ⟨-, lw, -⟩ := hd.2 w hw
            have nw := nx_bnd hd hg hw
            have m1 := lo_mul nb.1 nb.2 lw.1 lw.2
            have m2 := lo_mul nw.1 nw.2 lb.1 lb.2
            rw [x1, x2]
            by_cases c4 : nx d a v * d.lo w < nx d a w * d.lo v
            · rw [if_pos c4]
              rw [f_X1_cheapestNextLot_11]
              simp (disch := omega) only [↓reduceIte, gd_t, bd_s, nm_W, nm_I, I_add, I_sub, I_mul, I_neg, I_le_t, I_le_f, I_lt_t, I_lt_f, I_eq_t, I_eq_f, I_inb', I_ix', Int.toNat_natCast, decide_true, decide_false, Bool.not_false, Bool.not_true, if_true, if_false, wi_eq, wi_eq', wi_ne, wi_row, wi_2, N0, N1, N2, N3, N4, N5, N6, N7, N8, N9, N10, N11, N12, N13, N14, N15, N16, N17, N18, N19, N20, N21, N22, N23, N24, N25, N26, N27, N28, N29, N30, N31, N32, N33, N34, N35, N36, N37, N38, N39, N40, N41, N42, N43, N45, N48, N57, N59, N88, N89, N97, N99, N120, N121, N122, N179, N200, N255, N300, N400, N880, N900, N999, N1019, N50000000, N100000000, N1000000000, N2147483647, N2147483648, h.1, cLot h hd hvV, ha v hvV, (hr v hvV).1, ev, f_X1_cheapestNextLot_85, f_X1_cheapestNextLot_96]
              exact ih _ _ _ hvb (fun _ => ⟨by rw [Int.toNat_natCast], by rw [Int.toNat_natCast]⟩)
            · rw [if_neg c4]
              rw [f_X1_cheapestNextLot_11]
              simp (disch := omega) only [↓reduceIte, gd_t, bd_s, nm_W, nm_I, I_add, I_sub, I_mul, I_neg, I_le_t, I_le_f, I_lt_t, I_lt_f, I_eq_t, I_eq_f, I_inb', I_ix', Int.toNat_natCast, decide_true, decide_false, Bool.not_false, Bool.not_true, if_true, if_false, wi_eq, wi_eq', wi_ne, wi_row, wi_2, N0, N1, N2, N3, N4, N5, N6, N7, N8, N9, N10, N11, N12, N13, N14, N15, N16, N17, N18, N19, N20, N21, N22, N23, N24, N25, N26, N27, N28, N29, N30, N31, N32, N33, N34, N35, N36, N37, N38, N39, N40, N41, N42, N43, N45, N48, N57, N59, N88, N89, N97, N99, N120, N121, N122, N179, N200, N255, N300, N400, N880, N900, N999, N1019, N50000000, N100000000, N1000000000, N2147483647, N2147483648, h.1, cLot h hd hvV, ha v hvV, (hr v hvV).1, ev, f_X1_cheapestNextLot_85, f_X1_cheapestNextLot_96]
              exact ih _ _ _ (Or.inr ⟨b1, b2, by rw [Int.toNat_natCast]; exact b3, by rw [Int.toNat_natCast]; exact b4⟩) (fun _ => ⟨by rw [Int.toNat_natCast], by rw [Int.toNat_natCast]⟩)
      · have c2' : ¬ gn d a v + d.lo v ≤ (rm d p (-1) q v : Int) := fun q => c2 (ri.mp q)
        rw [if_neg (fun q => c2 q.2)]
        rw [f_X1_cheapestNextLot_11]
        simp (disch := omega) only [↓reduceIte, gd_t, bd_s, nm_W, nm_I, I_add, I_sub, I_mul, I_neg, I_le_t, I_le_f, I_lt_t, I_lt_f, I_eq_t, I_eq_f, I_inb', I_ix', Int.toNat_natCast, decide_true, decide_false, Bool.not_false, Bool.not_true, if_true, if_false, wi_eq, wi_eq', wi_ne, wi_row, wi_2, N0, N1, N2, N3, N4, N5, N6, N7, N8, N9, N10, N11, N12, N13, N14, N15, N16, N17, N18, N19, N20, N21, N22, N23, N24, N25, N26, N27, N28, N29, N30, N31, N32, N33, N34, N35, N36, N37, N38, N39, N40, N41, N42, N43, N45, N48, N57, N59, N88, N89, N97, N99, N120, N121, N122, N179, N200, N255, N300, N400, N880, N900, N999, N1019, N50000000, N100000000, N1000000000, N2147483647, N2147483648, h.1, cLot h hd hvV, ha v hvV, (hr v hvV).1, f_X1_cheapestNextLot_85, f_X1_cheapestNextLot_96]
        exact ih _ _ _ hb hx
    · rw [if_neg (fun q => c1 q.1)]
      rw [f_X1_cheapestNextLot_11]
      simp (disch := omega) only [↓reduceIte, gd_t, bd_s, nm_W, nm_I, I_add, I_sub, I_mul, I_neg, I_le_t, I_le_f, I_lt_t, I_lt_f, I_eq_t, I_eq_f, I_inb', I_ix', Int.toNat_natCast, decide_true, decide_false, Bool.not_false, Bool.not_true, if_true, if_false, wi_eq, wi_eq', wi_ne, wi_row, wi_2, N0, N1, N2, N3, N4, N5, N6, N7, N8, N9, N10, N11, N12, N13, N14, N15, N16, N17, N18, N19, N20, N21, N22, N23, N24, N25, N26, N27, N28, N29, N30, N31, N32, N33, N34, N35, N36, N37, N38, N39, N40, N41, N42, N43, N45, N48, N57, N59, N88, N89, N97, N99, N120, N121, N122, N179, N200, N255, N300, N400, N880, N900, N999, N1019, N50000000, N100000000, N1000000000, N2147483647, N2147483648, h.1, cLot h hd hvV, ha v hvV, f_X1_cheapestNextLot_85, f_X1_cheapestNextLot_96]
      exact ih _ _ _ hb hx
theorem c_gr {m V q : Nat} {p : Int} {d : MD} (hm : 10 < m) (hd : MDok d V) :
    ∀ (r n : Nat) (left z : Int) (a : Nat → Nat) (σ : Wd), z + (r : Int) = 120 ∧ 0 ≤ z → r < n → left ≤ (r : Int) → CV m σ V d → PR d p (-1) V q σ → GB d a V left q → (∀ v, v < V → σ.1 5 v = I (gn d a v)) →
      σ.1 4 0 = I ((q : Int) - left) → σ.1 4 1 = I (sc d a V 0) →
      ∃ σ', f_X1_chooseGreedily_43 m n (I (q : Int)) (I z) σ = some (0, σ') ∧ σ'.1 4 0 = I ((q : Int) - (gr d p V r a left).2) ∧ σ'.1 4 1 = I (sc d (gr d p V r a left).1 V 0)
        ∧ (∀ v, v < V → σ'.1 5 v = I (gn d (gr d p V r a left).1 v)) ∧ (∀ k, k ≠ 4 → k ≠ 5 → σ'.1 k = σ.1 k) ∧ σ'.2 = σ.2
  | 0, n + 1, left, z, a, σ, hz, hn, hr, h, hp, hg, ha, h0, h1 => by
    refine ⟨σ, ?_, h0, h1, ha, fun _ _ _ => rfl, rfl⟩
    rw [f_X1_chooseGreedily_43]
    simp (disch := omega) only [↓reduceIte, gd_t, bd_s, nm_W, nm_I, I_add, I_sub, I_mul, I_neg, I_le_t, I_le_f, I_lt_t, I_lt_f, I_eq_t, I_eq_f, I_inb', I_ix', Int.toNat_natCast, decide_true, decide_false, Bool.not_false, Bool.not_true, if_true, if_false, wi_eq, wi_eq', wi_ne, wi_row, wi_2, N0, N1, N2, N3, N4, N5, N6, N7, N8, N9, N10, N11, N12, N13, N14, N15, N16, N17, N18, N19, N20, N21, N22, N23, N24, N25, N26, N27, N28, N29, N30, N31, N32, N33, N34, N35, N36, N37, N38, N39, N40, N41, N42, N43, N45, N48, N57, N59, N88, N89, N97, N99, N120, N121, N122, N179, N200, N255, N300, N400, N880, N900, N999, N1019, N50000000, N100000000, N1000000000, N2147483647, N2147483648]
  | r + 1, n + 1, left, z, a, σ, hz, hn, hr, h, hp, hg, ha, h0, h1 => by
    have h5 := hd.1
    have e := c_gs (p := p) h hd hg ha hp V 0 FU (-1) 0 1 0 rfl (by show _ < 6000; omega) (by omega) (Or.inl rfl) (fun q => absurd rfl q)
    have eg : (q : Int) - ((q : Int) - left) = left := by omega
    by_cases c1 : gs d p left a V 0 (-1) = -1
    · rw [gr, if_pos c1]
      refine ⟨σ, ?_, h0, h1, ha, fun _ _ _ => rfl, rfl⟩
      rw [f_X1_chooseGreedily_43]
      unfold f_X1_cheapestNextLot
      simp (disch := omega) only [↓reduceIte, gd_t, bd_s, nm_W, nm_I, I_add, I_sub, I_mul, I_neg, I_le_t, I_le_f, I_lt_t, I_lt_f, I_eq_t, I_eq_f, I_inb', I_ix', Int.toNat_natCast, decide_true, decide_false, Bool.not_false, Bool.not_true, if_true, if_false, wi_eq, wi_eq', wi_ne, wi_row, wi_2, N0, N1, N2, N3, N4, N5, N6, N7, N8, N9, N10, N11, N12, N13, N14, N15, N16, N17, N18, N19, N20, N21, N22, N23, N24, N25, N26, N27, N28, N29, N30, N31, N32, N33, N34, N35, N36, N37, N38, N39, N40, N41, N42, N43, N45, N48, N57, N59, N88, N89, N97, N99, N120, N121, N122, N179, N200, N255, N300, N400, N880, N900, N999, N1019, N50000000, N100000000, N1000000000, N2147483647, N2147483648, h0, eg, e, c1]
    · rcases gs_ok (d := d) (p := p) (left := left) (a := a) (V := V) V 0 (-1) (by omega) (Or.inl rfl) with hb | ⟨b1, b2, b3, b4⟩
      · exact absurd hb c1
      · rw [gr, if_neg c1]
        obtain ⟨w, ew⟩ := Int.eq_ofNat_of_zero_le b1
        rw [ew] at b2 b3 b4 e ⊢
        rw [Int.toNat_natCast] at b3 b4 ⊢
        have hw' : w < V := by omega
        obtain ⟨-, lw, -⟩ := hd.2 w hw'
        have en := cNext hd hw' hg (ha w hw') hp b3 b4
        obtain ⟨s1, hs1⟩ : ∃ s, s = wi σ 4 1 (I (sc d a V 0 + nx d a w)) := ⟨_, rfl⟩
        obtain ⟨s2, hs2⟩ : ∃ s, s = wi s1 4 0 (I ((q : Int) - left + d.lo w)) := ⟨_, rfl⟩
        obtain ⟨s3, hs3⟩ : ∃ s, s = wi s2 5 w (I (gn d a w + d.lo w)) := ⟨_, rfl⟩
        have k1 : CV m s1 V d := CV_congr h (fun k hk => by rw [hs1]; exact wi_row (by omega))
        have k2 : CV m s2 V d := CV_congr k1 (fun k hk => by rw [hs2]; exact wi_row (by omega))
        have k3 : CV m s3 V d := CV_congr k2 (fun k hk => by rw [hs3]; exact wi_row (by omega))
        have f3 : ∀ k, k ≠ 4 → k ≠ 5 → s3.1 k = σ.1 k := fun k h1 h2 => by rw [hs3, wi_row h2, hs2, wi_row h1, hs1, wi_row h1]
        have r5 : s1.1 5 w = I (gn d a w) := by rw [hs1, wi_row (by decide)]; exact ha w hw'
        obtain ⟨σ', q1, q2, q3, q4, q5, q6⟩ := c_gr (p := p) hm hd r n (left - d.lo w) (z + 1) (bump a w) s3 (by omega) (by omega) (by omega) k3 (PR_congr hp (f3 6 (by decide) (by decide)) (f3 7 (by decide) (by decide))) (GB_bump hd hw' hg b3)
          (fun v hv => by
            by_cases c : v = w
            · subst c
              rw [hs3, wi_eq, gn_bump (by omega)]
            · rw [hs3, wi_ne c, hs2, wi_row (by decide), hs1, wi_row (by decide), gn_bump_ne c]
              exact ha v hv)
          (by rw [hs3, wi_row (by decide), hs2, wi_eq, show (q : Int) - (left - d.lo w) = (q : Int) - left + d.lo w from by omega])
          (by rw [hs3, wi_row (by decide), hs2, wi_ne (by decide), hs1, wi_eq, sc_bump (by omega) V 0 (by omega) (by omega)])
        refine ⟨σ', ?_, q2, q3, q4, fun k h1 h2 => by rw [q5 k h1 h2, f3 k h1 h2], by rw [q6, hs3, wi_2, hs2, wi_2, hs1, wi_2]⟩
        rw [← q1, f_X1_chooseGreedily_43]
        unfold f_X1_cheapestNextLot
        have r4 : s1.1 4 0 = I ((q : Int) - left) := by rw [hs1, wi_ne (by decide)]; exact h0
        simp (disch := omega) only [↓reduceIte, gd_t, bd_s, nm_W, nm_I, I_add, I_sub, I_mul, I_neg, I_le_t, I_le_f, I_lt_t, I_lt_f, I_eq_t, I_eq_f, I_inb', I_ix', Int.toNat_natCast, decide_true, decide_false, Bool.not_false, Bool.not_true, if_true, if_false, wi_eq, wi_eq', wi_ne, wi_row, wi_2, N0, N1, N2, N3, N4, N5, N6, N7, N8, N9, N10, N11, N12, N13, N14, N15, N16, N17, N18, N19, N20, N21, N22, N23, N24, N25, N26, N27, N28, N29, N30, N31, N32, N33, N34, N35, N36, N37, N38, N39, N40, N41, N42, N43, N45, N48, N57, N59, N88, N89, N97, N99, N120, N121, N122, N179, N200, N255, N300, N400, N880, N900, N999, N1019, N50000000, N100000000, N1000000000, N2147483647, N2147483648, h0, h1, eg, e, cLot h hd hw', en, ← hs1, cLot k1 hd hw', r4, ← hs2, cLot k2 hd hw', r5, ← hs3]
theorem c_g0 {m V q : Nat} {d : MD} (hm : 10 < m) (hV : V ≤ 5) :
    ∀ (r v n : Nat) (z : Int) (σ : Wd), z = (v : Int) → v + r = V → r < n → σ.1 m 3 = I (V : Int) → (∀ w, w < v → σ.1 5 w = I (gn d (fun _ => 0) w)) →
      ∃ σ', f_X1_chooseGreedily_20 m n (I (q : Int)) (I z) σ = f_X1_chooseGreedily_43 m FU (I (q : Int)) (I 0) σ' ∧ (∀ w, w < V → σ'.1 5 w = I (gn d (fun _ => 0) w)) ∧ (∀ k, k ≠ 5 → σ'.1 k = σ.1 k) ∧ σ'.2 = σ.2
  | 0, v, n + 1, z, σ, hz, hv, _, h3, hw => by
    refine ⟨σ, ?_, fun w h1 => hw w (by omega), fun _ _ => rfl, rfl⟩
    rw [f_X1_chooseGreedily_20]
    simp (disch := omega) only [↓reduceIte, gd_t, bd_s, nm_W, nm_I, I_add, I_sub, I_mul, I_neg, I_le_t, I_le_f, I_lt_t, I_lt_f, I_eq_t, I_eq_f, I_inb', I_ix', Int.toNat_natCast, decide_true, decide_false, Bool.not_false, Bool.not_true, if_true, if_false, wi_eq, wi_eq', wi_ne, wi_row, wi_2, N0, N1, N2, N3, N4, N5, N6, N7, N8, N9, N10, N11, N12, N13, N14, N15, N16, N17, N18, N19, N20, N21, N22, N23, N24, N25, N26, N27, N28, N29, N30, N31, N32, N33, N34, N35, N36, N37, N38, N39, N40, N41, N42, N43, N45, N48, N57, N59, N88, N89, N97, N99, N120, N121, N122, N179, N200, N255, N300, N400, N880, N900, N999, N1019, N50000000, N100000000, N1000000000, N2147483647, N2147483648, h3]
  | r + 1, v, n + 1, z, σ, hz, hv, hn, h3, hw => by
    have g0 : gn d (fun _ => 0) v = 0 := by unfold gn; rw [Nat.zero_mul]; rfl
    have tz : z.toNat = v := by omega
    obtain ⟨σ', q1, q2, q3, q4⟩ := c_g0 (q := q) (d := d) hm hV r (v + 1) n (z + 1) (wi σ 5 v (I 0)) (by omega) (by omega) (by omega) (by rw [wi_row (by omega)]; exact h3)
      (fun w h1 => by
        by_cases c : w = v
        · subst c; rw [wi_eq, g0]
        · rw [wi_ne c]; exact hw w (by omega))
    refine ⟨σ', ?_, q2, fun k hk => by rw [q3 k hk, wi_row hk], by rw [q4, wi_2]⟩
    rw [← q1, f_X1_chooseGreedily_20]
    simp (disch := omega) only [↓reduceIte, gd_t, bd_s, nm_W, nm_I, I_add, I_sub, I_mul, I_neg, I_le_t, I_le_f, I_lt_t, I_lt_f, I_eq_t, I_eq_f, I_inb', I_ix', Int.toNat_natCast, decide_true, decide_false, Bool.not_false, Bool.not_true, if_true, if_false, wi_eq, wi_eq', wi_ne, wi_row, wi_2, N0, N1, N2, N3, N4, N5, N6, N7, N8, N9, N10, N11, N12, N13, N14, N15, N16, N17, N18, N19, N20, N21, N22, N23, N24, N25, N26, N27, N28, N29, N30, N31, N32, N33, N34, N35, N36, N37, N38, N39, N40, N41, N42, N43, N45, N48, N57, N59, N88, N89, N97, N99, N120, N121, N122, N179, N200, N255, N300, N400, N880, N900, N999, N1019, N50000000, N100000000, N1000000000, N2147483647, N2147483648, h3, tz]
theorem sc_0 {d : MD} : ∀ (r v : Nat), sc d (fun _ => 0) r v = 0
  | 0, _ => rfl
  | r + 1, v => by
    unfold sc
    rw [sc_0 r (v + 1), show gn d (fun _ => 0) v = 0 from by unfold gn; rw [Nat.zero_mul]; rfl, cst_0]
    rfl
theorem GB_0 {d : MD} {V q : Nat} (hq : q ≤ 120) : GB d (fun _ => 0) V (q : Int) q := ⟨by omega, hq, fun v hv => by rw [show gn d (fun _ => 0) v = 0 from by unfold gn; rw [Nat.zero_mul]; rfl]; omega⟩
theorem cGreedy {m : Nat} {σ : Wd} {V q : Nat} {p : Int} {d : MD} (hm : 10 < m) (hd : MDok d V) (hp : R p) (hq : q ≤ 120) (h : CV m σ V d) (hl : σ.1 m 1 = I p) :
    ∃ σ', f_X1_chooseGreedily m (I (q : Int)) σ = some (0, σ') ∧ σ'.1 4 0 = I ((q : Int) - (gr d p V 120 (fun _ => 0) (q : Int)).2) ∧ σ'.1 4 1 = I (sc d (gr d p V 120 (fun _ => 0) (q : Int)).1 V 0)
        ∧ (∀ v, v < V → σ'.1 5 v = I (gn d (gr d p V 120 (fun _ => 0) (q : Int)).1 v)) ∧ (∀ k, k < 4 ∨ 9 < k → σ'.1 k = σ.1 k) ∧ σ'.2 = σ.2 := by
  have h5 := hd.1
  obtain ⟨s1, a1, a2, a3, a4⟩ := cPrep (q := q) hm hd hp (show R (-1) by unfold R; omega) hq h hl
  obtain ⟨s2, hs2⟩ : ∃ s, s = wi (wi s1 4 0 (I 0)) 4 1 (I 0) := ⟨_, rfl⟩
  have f2 : ∀ k, k ≠ 4 → s2.1 k = s1.1 k := fun k hk => by rw [hs2, wi_row hk, wi_row hk]
  have h2 : CV m s2 V d := CV_congr h (fun k hk => by rw [f2 k (by omega), a2 k (by omega) (by omega)])
  obtain ⟨s3, b1, b2, b3, b4⟩ := c_g0 (q := q) (d := d) hm h5 V 0 FU 0 s2 rfl (by omega) (by show _ < 6000; omega) h2.1 (fun w hw => absurd hw (by omega))
  obtain ⟨σ', q1, q2, q3, q4, q5, q6⟩ := c_gr (p := p) hm hd 120 FU (q : Int) 0 (fun _ => 0) s3 ⟨by omega, by omega⟩ (by decide) (by omega) (CV_congr h2 (fun k hk => b3 k (by omega))) (PR_congr (PR_congr a4 (f2 6 (by decide)) (f2 7 (by decide))) (b3 6 (by decide)) (b3 7 (by decide))) (GB_0 hq) b2
    (by rw [b3 4 (by decide), hs2, wi_ne (by decide), wi_eq, Int.sub_self]) (by rw [b3 4 (by decide), hs2, wi_eq, sc_0])
  refine ⟨σ', ?_, q2, q3, q4, fun k hk => by rw [q5 k (by omega) (by omega), b3 k (by omega), f2 k (by omega), a2 k (by omega) (by omega)], by rw [q6, b4, hs2, wi_2, wi_2, a3]⟩
  unfold f_X1_chooseGreedily
  rw [show (-1 : Int32) = I (-1) from rfl, a1, bd_s, nm_W, nm_W]
  show f_X1_chooseGreedily_20 m FU (I (q : Int)) (I 0) (wi (wi s1 4 0 (I 0)) 4 1 (I 0)) = _
  rw [← hs2, b1, q1]
theorem c_used {m : Nat} {σ : Wd} {V : Nat} {d : MD} {a : Nat → Nat} (h3 : σ.1 m 3 = I (V : Int)) (hV : V ≤ 5) (ha : ∀ v, v < V → σ.1 5 v = I (gn d a v)) (hb : ∀ v, v < V → gn d a v ≤ 1000) :
    ∀ (r v n : Nat) (z : Int) (x : Int32), z = (v : Int) → v + r = V → r < n → f_X1_venuesUsed_4 m n x (I z) σ = some (ub d a r v x, σ)
  | 0, v, n + 1, z, x, hz, hv, _ => by
    rw [f_X1_venuesUsed_4]
    simp (disch := omega) only [↓reduceIte, gd_t, bd_s, nm_W, nm_I, I_add, I_sub, I_mul, I_neg, I_le_t, I_le_f, I_lt_t, I_lt_f, I_eq_t, I_eq_f, I_inb', I_ix', Int.toNat_natCast, decide_true, decide_false, Bool.not_false, Bool.not_true, if_true, if_false, wi_eq, wi_eq', wi_ne, wi_row, wi_2, N0, N1, N2, N3, N4, N5, N6, N7, N8, N9, N10, N11, N12, N13, N14, N15, N16, N17, N18, N19, N20, N21, N22, N23, N24, N25, N26, N27, N28, N29, N30, N31, N32, N33, N34, N35, N36, N37, N38, N39, N40, N41, N42, N43, N45, N48, N57, N59, N88, N89, N97, N99, N120, N121, N122, N179, N200, N255, N300, N400, N880, N900, N999, N1019, N50000000, N100000000, N1000000000, N2147483647, N2147483648, h3, ub]
  | r + 1, v, n + 1, z, x, hz, hv, hn => by
    subst hz
    have g0 := gn_nn (d := d) (a := a) (v := v)
    have g1 := hb v (by omega)
    have ih := fun x => c_used h3 hV ha hb r (v + 1) n ((v : Int) + 1) x (by omega) (by omega) (by omega)
    rw [ub]
    by_cases c1 : gn d a v ≤ 0
    · rw [if_pos c1, ← ih, f_X1_venuesUsed_4]
      simp (disch := omega) only [↓reduceIte, gd_t, bd_s, nm_W, nm_I, I_add, I_sub, I_mul, I_neg, I_le_t, I_le_f, I_lt_t, I_lt_f, I_eq_t, I_eq_f, I_inb', I_ix', Int.toNat_natCast, decide_true, decide_false, Bool.not_false, Bool.not_true, if_true, if_false, wi_eq, wi_eq', wi_ne, wi_row, wi_2, N0, N1, N2, N3, N4, N5, N6, N7, N8, N9, N10, N11, N12, N13, N14, N15, N16, N17, N18, N19, N20, N21, N22, N23, N24, N25, N26, N27, N28, N29, N30, N31, N32, N33, N34, N35, N36, N37, N38, N39, N40, N41, N42, N43, N45, N48, N57, N59, N88, N89, N97, N99, N120, N121, N122, N179, N200, N255, N300, N400, N880, N900, N999, N1019, N50000000, N100000000, N1000000000, N2147483647, N2147483648, h3, ha v (by omega), f_X1_venuesUsed_27]
    · rw [if_neg c1, ← ih, f_X1_venuesUsed_4]
      simp (disch := omega) only [↓reduceIte, gd_t, bd_s, nm_W, nm_I, I_add, I_sub, I_mul, I_neg, I_le_t, I_le_f, I_lt_t, I_lt_f, I_eq_t, I_eq_f, I_inb', I_ix', Int.toNat_natCast, decide_true, decide_false, Bool.not_false, Bool.not_true, if_true, if_false, wi_eq, wi_eq', wi_ne, wi_row, wi_2, N0, N1, N2, N3, N4, N5, N6, N7, N8, N9, N10, N11, N12, N13, N14, N15, N16, N17, N18, N19, N20, N21, N22, N23, N24, N25, N26, N27, N28, N29, N30, N31, N32, N33, N34, N35, N36, N37, N38, N39, N40, N41, N42, N43, N45, N48, N57, N59, N88, N89, N97, N99, N120, N121, N122, N179, N200, N255, N300, N400, N880, N900, N999, N1019, N50000000, N100000000, N1000000000, N2147483647, N2147483648, h3, ha v (by omega), f_X1_venuesUsed_27]
theorem gr_GB {d : MD} {p : Int} {V q : Nat} (hd : MDok d V) : ∀ (n : Nat) (a : Nat → Nat) (left : Int), GB d a V left q → GB d (gr d p V n a left).1 V (gr d p V n a left).2 q
  | 0, _, _, h => h
  | n + 1, a, left, h => by
    rw [gr]
    split
    · exact h
    · rename_i c
      rcases gs_ok (d := d) (p := p) (left := left) (a := a) (V := V) V 0 (-1) (by omega) (Or.inl rfl) with hb | ⟨b1, b2, b3, b4⟩
      · exact absurd hb c
      · exact gr_GB hd n _ _ (GB_bump hd (by omega) h b3)
/-- the reference's greedy split, whole -/
theorem r_g0 {V q : Nat} {p what : Int} {d : MD} (hd : MDok d V) (hp : R p) (hq : q ≤ 120) (hw : 0 ≤ what ∧ what ≤ 2) :
    ∀ (r v n : Nat) (z : Int) (σ : Wd), z = (v : Int) → v + r = 5 → r < n → RV σ V d → σ.1 102 12 = I p → (∀ w, w < v → σ.1 118 w = I (gn d (fun _ => 0) w)) →
      ∃ σ', f_X7_greedy_30 n (I (q : Int)) (I what) (I z) σ = f_X7_greedy_190 (if what = 0 then I (sc d (gr d p V 120 (fun _ => 0) (q : Int)).1 V 0) else if what = 1 then I ((q : Int) - (gr d p V 120 (fun _ => 0) (q : Int)).2) else ub d (gr d p V 120 (fun _ => 0) (q : Int)).1 V 0 0) σ'
        ∧ (∀ k, k ≠ 118 → σ'.1 k = σ.1 k) ∧ σ'.2 = σ.2
  | 0, v, n + 1, z, σ, hz, hv, _, h, hl, hw2 => by
    have h5 := hd.1
    have ha : ∀ v, v < V → σ.1 118 v = I (gn d (fun _ => 0) v) := fun w h1 => hw2 w (by omega)
    obtain ⟨σ', q1, q2, q3⟩ := r_gr (q := q) hd hp hw 120 FU (q : Int) (fun _ => 0) σ (by decide) (by omega) h hl (GB_0 hq) ha
    refine ⟨σ', ?_, q2, q3⟩
    rw [← q1, f_X7_greedy_30]
    simp (disch := omega) only [↓reduceIte, gd_t, bd_s, nm_W, nm_I, I_add, I_sub, I_mul, I_neg, I_le_t, I_le_f, I_lt_t, I_lt_f, I_eq_t, I_eq_f, I_inb', I_ix', Int.toNat_natCast, decide_true, decide_false, Bool.not_false, Bool.not_true, if_true, if_false, wi_eq, wi_eq', wi_ne, wi_row, wi_2, N0, N1, N2, N3, N4, N5, N6, N7, N8, N9, N10, N11, N12, N13, N14, N15, N16, N17, N18, N19, N20, N21, N22, N23, N24, N25, N26, N27, N28, N29, N30, N31, N32, N33, N34, N35, N36, N37, N38, N39, N40, N41, N42, N43, N45, N48, N57, N59, N88, N89, N97, N99, N120, N121, N122, N179, N200, N255, N300, N400, N880, N900, N999, N1019, N50000000, N100000000, N1000000000, N2147483647, N2147483648, rGs h hd hp hl (GB_0 hq) ha]
  | r + 1, v, n + 1, z, σ, hz, hv, hn, h, hl, hw2 => by
    have g0 : gn d (fun _ => 0) v = 0 := by unfold gn; rw [Nat.zero_mul]; rfl
    have tz : z.toNat = v := by omega
    obtain ⟨σ', q1, q2, q3⟩ := r_g0 (q := q) hd hp hq hw r (v + 1) n (z + 1) (wi σ 118 v (I 0)) (by omega) (by omega) (by omega)
      (RV_congr h (by rw [wi_row (by decide)]) (wi_row (by decide)) (wi_row (by decide)) (wi_row (by decide))) (by rw [wi_row (by decide)]; exact hl)
      (fun w h1 => by
        by_cases c : w = v
        · subst c; rw [wi_eq, g0]
        · rw [wi_ne c]; exact hw2 w (by omega))
    refine ⟨σ', ?_, fun k hk => by rw [q2 k hk, wi_row hk], by rw [q3, wi_2]⟩
    rw [← q1, f_X7_greedy_30]
    simp (disch := omega) only [↓reduceIte, gd_t, bd_s, nm_W, nm_I, I_add, I_sub, I_mul, I_neg, I_le_t, I_le_f, I_lt_t, I_lt_f, I_eq_t, I_eq_f, I_inb', I_ix', Int.toNat_natCast, decide_true, decide_false, Bool.not_false, Bool.not_true, if_true, if_false, wi_eq, wi_eq', wi_ne, wi_row, wi_2, N0, N1, N2, N3, N4, N5, N6, N7, N8, N9, N10, N11, N12, N13, N14, N15, N16, N17, N18, N19, N20, N21, N22, N23, N24, N25, N26, N27, N28, N29, N30, N31, N32, N33, N34, N35, N36, N37, N38, N39, N40, N41, N42, N43, N45, N48, N57, N59, N88, N89, N97, N99, N120, N121, N122, N179, N200, N255, N300, N400, N880, N900, N999, N1019, N50000000, N100000000, N1000000000, N2147483647, N2147483648, tz]
end
section
/-! PURE: the fewest venues for u units -/
def fF (g : Nat → Option Int) (u l i : Nat) : Option Int := if i = 0 then g u else oadd 1 (g (u - i * l))
def fw (d : MD) (p : Int) : Nat → Nat → Option Int
  | 0, u => if u = 0 then some 0 else none
  | v + 1, u => mnf (fF (fw d p v) u (d.lo v).toNat) (kx d p (-1) v u)
theorem kx_0 {d : MD} {p but : Int} {v : Nat} : kx d p but v 0 = 0 := by
  unfold kx
  split
  · rfl
  · rw [show min 0 (dep d p v).toNat = 0 from by omega, Nat.zero_div]
theorem fw_0 {d : MD} {p : Int} : ∀ v, fw d p v 0 = some 0
  | 0 => rfl
  | v + 1 => by
    unfold fw
    rw [kx_0]
    show fF (fw d p v) 0 _ 0 = _
    unfold fF
    rw [if_pos rfl]
    exact fw_0 v
theorem fw_OB {d : MD} {p : Int} : ∀ (v u : Nat), OB (v : Int) (fw d p v u)
  | 0, u => by
    intro x hx
    unfold fw at hx
    split at hx
    · have := Option.some.inj hx
      omega
    · cases hx
  | v + 1, u => by
    unfold fw
    refine OB_mnf (fun i hi => ?_)
    unfold fF
    split
    · exact OB_mono (by omega) (fw_OB v u)
    · exact OB_mono (by omega) (OB_oadd (a := 1) (by omega) (by omega) (fw_OB v _))
/-- the class: one number -/
theorem c_fw1 {m V q v u l K room : Nat} {g : Nat → Option Int} {k31 : Int32 → Int32 → Wd → Option (Int32 × Wd)} {k57 : Int32 → Int32 → Int32 → Int32 → Int32 → Wd → Option (Int32 × Wd)} (hv : v < V) (hV : V ≤ 5) (hu : u ≤ 120) (hu0 : 0 < u) (hl : 1 ≤ l) (hl2 : l ≤ 20) (hr : room ≤ 120) (hK : min u room / l = K) (hgb : ∀ w, OB 10 (g w)) :
    ∀ (r i n : Nat) (z : Int) (acc : Option Int) (σ : Wd), z = ((i * l : Nat) : Int) → 1 ≤ i → i + r = K + 1 → r < n → OB 20 acc → σ.1 9 u = I (enc 1000000000 acc) → (∀ w, w < u → σ.1 9 w = I (enc 1000000000 (g w))) →
      ∃ σ', f_X1_fewestVenues_66 m k31 k57 n (I (q : Int)) (I (v : Int)) (I (l : Int)) (I (room : Int)) (I (u : Int)) (I z) σ = k57 (I (q : Int)) (I (v : Int)) (I (l : Int)) (I (room : Int)) (I ((u : Int) - 1)) σ'
        ∧ σ'.1 9 u = I (enc 1000000000 (amn (fF g u l) r i acc)) ∧ (∀ w, w ≠ u → σ'.1 9 w = σ.1 9 w) ∧ (∀ k, k ≠ 9 → σ'.1 k = σ.1 k) ∧ σ'.2 = σ.2
  | 0, i, n + 1, z, acc, σ, hz, hi1, hi, _, ha, hacc, hg => by
    obtain ⟨k1, k2⟩ := div_box (M := min u room) hl
    rw [hK] at k1 k2
    have hi : i = K + 1 := by omega
    subst hi
    have e : (K + 1) * l = K * l + l := Nat.succ_mul K l
    refine ⟨σ, ?_, hacc, fun _ _ => rfl, fun _ _ => rfl, rfl⟩
    rw [f_X1_fewestVenues_66]
    by_cases c : (room : Int) < z
    · simp (disch := omega) only [↓reduceIte, gd_t, bd_s, nm_W, nm_I, I_add, I_sub, I_mul, I_neg, I_le_t, I_le_f, I_lt_t, I_lt_f, I_eq_t, I_eq_f, I_inb', I_ix', Int.toNat_natCast, decide_true, decide_false, Bool.not_false, Bool.not_true, if_true, if_false, wi_eq, wi_eq', wi_ne, wi_row, wi_2, N0, N1, N2, N3, N4, N5, N6, N7, N8, N9, N10, N11, N12, N13, N14, N15, N16, N17, N18, N19, N20, N21, N22, N23, N24, N25, N26, N27, N28, N29, N30, N31, N32, N33, N34, N35, N36, N37, N38, N39, N40, N41, N42, N43, N45, N48, N57, N59, N88, N89, N97, N99, N120, N121, N122, N179, N200, N255, N300, N400, N880, N900, N999, N1019, N50000000, N100000000, N1000000000, N2147483647, N2147483648, f_X1_fewestVenues_131]
      rfl
    · simp (disch := omega) only [↓reduceIte, gd_t, bd_s, nm_W, nm_I, I_add, I_sub, I_mul, I_neg, I_le_t, I_le_f, I_lt_t, I_lt_f, I_eq_t, I_eq_f, I_inb', I_ix', Int.toNat_natCast, decide_true, decide_false, Bool.not_false, Bool.not_true, if_true, if_false, wi_eq, wi_eq', wi_ne, wi_row, wi_2, N0, N1, N2, N3, N4, N5, N6, N7, N8, N9, N10, N11, N12, N13, N14, N15, N16, N17, N18, N19, N20, N21, N22, N23, N24, N25, N26, N27, N28, N29, N30, N31, N32, N33, N34, N35, N36, N37, N38, N39, N40, N41, N42, N43, N45, N48, N57, N59, N88, N89, N97, N99, N120, N121, N122, N179, N200, N255, N300, N400, N880, N900, N999, N1019, N50000000, N100000000, N1000000000, N2147483647, N2147483648, f_X1_fewestVenues_131]
      rfl
  | r + 1, i, n + 1, z, acc, σ, hz, hi1, hi, hn, ha, hacc, hg => by
    obtain ⟨k1, k2⟩ := div_box (M := min u room) hl
    rw [hK] at k1 k2
    have hiK : i ≤ K := by omega
    have m1 : i * l ≤ K * l := Nat.mul_le_mul_right l hiK
    have m2 : 1 * l ≤ i * l := Nat.mul_le_mul_right l hi1
    have e : (i + 1) * l = i * l + l := Nat.succ_mul i l
    have t1 : ((u : Int) - z).toNat = u - i * l := by omega
    have hF : fF g u l i = oadd 1 (g (u - i * l)) := by unfold fF; rw [if_neg (by omega)]
    have gb := hgb (u - i * l)
    have he := hg (u - i * l) (by omega)
    unfold amn
    rw [hF]
    have ih := fun acc σ (ha : OB 20 acc) => c_fw1 (m := m) (q := q) (k31 := k31) (k57 := k57) hv hV hu hu0 hl hl2 hr hK hgb r (i + 1) n (z + (l : Int)) acc σ (by omega) (by omega) (by omega) (by omega) ha
    cases hgi : g (u - i * l) with
    | none =>
      rw [show oadd 1 none = none from rfl, omin_none]
      obtain ⟨σ', q1, q2⟩ := ih acc σ ha hacc hg
      refine ⟨σ', ?_, q2⟩
      rw [hgi] at he
      obtain ⟨F, hF⟩ : ∃ F : Int, F = enc 1000000000 none := ⟨_, rfl⟩
      rw [← hF] at he
      have hF' : F = 1000000000 := hF
      rw [← q1, f_X1_fewestVenues_66]
      cases acc with
      | none =>
        rw [← hF] at hacc
        simp (disch := omega) only [↓reduceIte, gd_t, bd_s, nm_W, nm_I, I_add, I_sub, I_mul, I_neg, I_le_t, I_le_f, I_lt_t, I_lt_f, I_eq_t, I_eq_f, I_inb', I_ix', Int.toNat_natCast, decide_true, decide_false, Bool.not_false, Bool.not_true, if_true, if_false, wi_eq, wi_eq', wi_ne, wi_row, wi_2, N0, N1, N2, N3, N4, N5, N6, N7, N8, N9, N10, N11, N12, N13, N14, N15, N16, N17, N18, N19, N20, N21, N22, N23, N24, N25, N26, N27, N28, N29, N30, N31, N32, N33, N34, N35, N36, N37, N38, N39, N40, N41, N42, N43, N45, N48, N57, N59, N88, N89, N97, N99, N120, N121, N122, N179, N200, N255, N300, N400, N880, N900, N999, N1019, N50000000, N100000000, N1000000000, N2147483647, N2147483648, t1, he, hacc, f_X1_fewestVenues_121]
      | some y =>
        have yb := ha y rfl
        simp (disch := omega) only [↓reduceIte, gd_t, bd_s, nm_W, nm_I, I_add, I_sub, I_mul, I_neg, I_le_t, I_le_f, I_lt_t, I_lt_f, I_eq_t, I_eq_f, I_inb', I_ix', Int.toNat_natCast, decide_true, decide_false, Bool.not_false, Bool.not_true, if_true, if_false, wi_eq, wi_eq', wi_ne, wi_row, wi_2, N0, N1, N2, N3, N4, N5, N6, N7, N8, N9, N10, N11, N12, N13, N14, N15, N16, N17, N18, N19, N20, N21, N22, N23, N24, N25, N26, N27, N28, N29, N30, N31, N32, N33, N34, N35, N36, N37, N38, N39, N40, N41, N42, N43, N45, N48, N57, N59, N88, N89, N97, N99, N120, N121, N122, N179, N200, N255, N300, N400, N880, N900, N999, N1019, N50000000, N100000000, N1000000000, N2147483647, N2147483648, t1, he, hacc, enc, f_X1_fewestVenues_121]
    | some x =>
      have xb := gb x hgi
      have ob : OB 20 (oadd 1 (some x)) := by
        intro w hw
        have hw : some (1 + x) = some w := hw
        have hw := Option.some.inj hw
        omega
      rw [hgi] at he
      by_cases c : enc 1000000000 acc ≤ x + 1
      · have ea : omin acc (oadd 1 (some x)) = acc := by
          cases acc with
          | none => exact absurd c (by show ¬ (1000000000 : Int) ≤ _; omega)
          | some y =>
            have c : y ≤ x + 1 := c
            show some (if 1 + x < y then 1 + x else y) = some y
            rw [if_neg (by omega)]
        rw [ea]
        obtain ⟨σ', q1, q2⟩ := ih acc σ ha hacc hg
        refine ⟨σ', ?_, q2⟩
        rw [← q1, f_X1_fewestVenues_66]
        cases acc with
        | none => exact absurd c (by show ¬ (1000000000 : Int) ≤ _; omega)
        | some y =>
          have yb := ha y rfl
          have c : y ≤ x + 1 := c
          simp (disch := omega) only [↓reduceIte, gd_t, bd_s, nm_W, nm_I, I_add, I_sub, I_mul, I_neg, I_le_t, I_le_f, I_lt_t, I_lt_f, I_eq_t, I_eq_f, I_inb', I_ix', Int.toNat_natCast, decide_true, decide_false, Bool.not_false, Bool.not_true, if_true, if_false, wi_eq, wi_eq', wi_ne, wi_row, wi_2, N0, N1, N2, N3, N4, N5, N6, N7, N8, N9, N10, N11, N12, N13, N14, N15, N16, N17, N18, N19, N20, N21, N22, N23, N24, N25, N26, N27, N28, N29, N30, N31, N32, N33, N34, N35, N36, N37, N38, N39, N40, N41, N42, N43, N45, N48, N57, N59, N88, N89, N97, N99, N120, N121, N122, N179, N200, N255, N300, N400, N880, N900, N999, N1019, N50000000, N100000000, N1000000000, N2147483647, N2147483648, t1, he, hacc, enc, f_X1_fewestVenues_121]
      · have ea : omin acc (oadd 1 (some x)) = some (1 + x) := by
          cases acc with
          | none => rfl
          | some y =>
            have c : ¬ y ≤ x + 1 := c
            show some (if 1 + x < y then 1 + x else y) = some (1 + x)
            rw [if_pos (by omega)]
        rw [ea]
        obtain ⟨σ', q1, q2, q3, q4, q5⟩ := ih (some (1 + x)) (wi σ 9 u (I (x + 1))) ob (by rw [wi_eq]; show I (x + 1) = I (1 + x); rw [Int.add_comm]) (fun w hw => by rw [wi_ne (by omega)]; exact hg w hw)
        refine ⟨σ', ?_, q2, fun w hw => by rw [q3 w hw, wi_ne hw], fun k hk => by rw [q4 k hk, wi_row hk], by rw [q5, wi_2]⟩
        rw [← q1, f_X1_fewestVenues_66]
        cases acc with
        | none =>
          obtain ⟨F, hF⟩ : ∃ F : Int, F = enc 1000000000 none := ⟨_, rfl⟩
          rw [← hF] at hacc
          have hF' : F = 1000000000 := hF
          simp (disch := omega) only [↓reduceIte, gd_t, bd_s, nm_W, nm_I, I_add, I_sub, I_mul, I_neg, I_le_t, I_le_f, I_lt_t, I_lt_f, I_eq_t, I_eq_f, I_inb', I_ix', Int.toNat_natCast, decide_true, decide_false, Bool.not_false, Bool.not_true, if_true, if_false, wi_eq, wi_eq', wi_ne, wi_row, wi_2, N0, N1, N2, N3, N4, N5, N6, N7, N8, N9, N10, N11, N12, N13, N14, N15, N16, N17, N18, N19, N20, N21, N22, N23, N24, N25, N26, N27, N28, N29, N30, N31, N32, N33, N34, N35, N36, N37, N38, N39, N40, N41, N42, N43, N45, N48, N57, N59, N88, N89, N97, N99, N120, N121, N122, N179, N200, N255, N300, N400, N880, N900, N999, N1019, N50000000, N100000000, N1000000000, N2147483647, N2147483648, t1, he, hacc, enc, f_X1_fewestVenues_121]
        | some y =>
          have yb := ha y rfl
          have c : ¬ y ≤ x + 1 := c
          simp (disch := omega) only [↓reduceIte, gd_t, bd_s, nm_W, nm_I, I_add, I_sub, I_mul, I_neg, I_le_t, I_le_f, I_lt_t, I_lt_f, I_eq_t, I_eq_f, I_inb', I_ix', Int.toNat_natCast, decide_true, decide_false, Bool.not_false, Bool.not_true, if_true, if_false, wi_eq, wi_eq', wi_ne, wi_row, wi_2, N0, N1, N2, N3, N4, N5, N6, N7, N8, N9, N10, N11, N12, N13, N14, N15, N16, N17, N18, N19, N20, N21, N22, N23, N24, N25, N26, N27, N28, N29, N30, N31, N32, N33, N34, N35, N36, N37, N38, N39, N40, N41, N42, N43, N45, N48, N57, N59, N88, N89, N97, N99, N120, N121, N122, N179, N200, N255, N300, N400, N880, N900, N999, N1019, N50000000, N100000000, N1000000000, N2147483647, N2147483648, t1, he, hacc, enc, f_X1_fewestVenues_121]
/-- the class: one venue -/
theorem c_fw2 {m V q v : Nat} {p : Int} {d : MD} {k31 : Int32 → Int32 → Wd → Option (Int32 × Wd)} (hd : MDok d V) (hv : v < V) (hq : q ≤ 120) :
    ∀ (u n : Nat) (z : Int) (σ : Wd), z = (u : Int) → u ≤ q → u < n → (∀ w, w ≤ u → σ.1 9 w = I (enc 1000000000 (fw d p v w))) → (∀ w, u < w → w ≤ q → σ.1 9 w = I (enc 1000000000 (fw d p (v + 1) w))) →
      ∃ σ', f_X1_fewestVenues_57 m k31 n (I (q : Int)) (I (v : Int)) (I (d.lo v)) (I (rm d p (-1) q v : Int)) (I z) σ = k31 (I (q : Int)) (I ((v : Int) + 1)) σ'
        ∧ (∀ w, w ≤ q → σ'.1 9 w = I (enc 1000000000 (fw d p (v + 1) w))) ∧ (∀ k, k ≠ 9 → σ'.1 k = σ.1 k) ∧ σ'.2 = σ.2
  | 0, n + 1, z, σ, hz, _, _, h1, h2 => by
    have h5 := hd.1
    refine ⟨σ, ?_, fun w hw => ?_, fun _ _ => rfl, rfl⟩
    · rw [f_X1_fewestVenues_57]
      simp (disch := omega) only [↓reduceIte, gd_t, bd_s, nm_W, nm_I, I_add, I_sub, I_mul, I_neg, I_le_t, I_le_f, I_lt_t, I_lt_f, I_eq_t, I_eq_f, I_inb', I_ix', Int.toNat_natCast, decide_true, decide_false, Bool.not_false, Bool.not_true, if_true, if_false, wi_eq, wi_eq', wi_ne, wi_row, wi_2, N0, N1, N2, N3, N4, N5, N6, N7, N8, N9, N10, N11, N12, N13, N14, N15, N16, N17, N18, N19, N20, N21, N22, N23, N24, N25, N26, N27, N28, N29, N30, N31, N32, N33, N34, N35, N36, N37, N38, N39, N40, N41, N42, N43, N45, N48, N57, N59, N88, N89, N97, N99, N120, N121, N122, N179, N200, N255, N300, N400, N880, N900, N999, N1019, N50000000, N100000000, N1000000000, N2147483647, N2147483648]
    · by_cases c : w = 0
      · subst c
        rw [h1 0 (by omega), fw_0, fw_0]
      · exact h2 w (by omega) hw
  | u + 1, n + 1, z, σ, hz, hu, hn, h1, h2 => by
    have h5 := hd.1
    obtain ⟨-, lb, -⟩ := hd.2 v hv
    have rb := rm_le (p := p) (but := -1) (q := q) hd hv
    have km := kx_min (p := p) (but := -1) hd hv hu
    have kb := kx_le (p := p) (but := -1) (u := u + 1) hd hv
    have kb2 : kx d p (-1) v (u + 1) ≤ kx d p (-1) v (u + 1) * (d.lo v).toNat := Nat.le_mul_of_pos_right _ (by omega)
    obtain ⟨τ, t1, t2, t3, t4, t5⟩ := c_fw1 (m := m) (V := V) (q := q) (v := v) (u := u + 1) (l := (d.lo v).toNat) (K := kx d p (-1) v (u + 1)) (room := rm d p (-1) q v) (g := fw d p v) (k31 := k31) (k57 := f_X1_fewestVenues_57 m k31 n) hv h5 (by omega) (by omega) (by omega) (by omega) (by omega) km (fun w => OB_mono (by omega) (fw_OB v w))
      (kx d p (-1) v (u + 1)) 1 FU (d.lo v) (fw d p v (u + 1)) σ (by rw [Nat.one_mul]; omega) (by omega) (by omega) (by show _ < 6000; omega) (OB_mono (by omega) (fw_OB v (u + 1))) (h1 (u + 1) (Nat.le_refl _)) (fun w hw => h1 w (by omega))
    rw [show fw d p v (u + 1) = mnf (fF (fw d p v) (u + 1) (d.lo v).toNat) 0 from by show _ = fF _ _ _ 0; unfold fF; rw [if_pos rfl], amn_eq, Nat.zero_add] at t2
    obtain ⟨σ', q1, q2, q3, q4⟩ := c_fw2 (m := m) (k31 := k31) hd hv hq u n (z - 1) τ (by omega) (by omega) (by omega)
      (fun w hw => by rw [t3 w (by omega)]; exact h1 w (by omega))
      (fun w g1 g2 => by
        by_cases c : w = u + 1
        · subst c; exact t2
        · rw [t3 w c]; exact h2 w (by omega) g2)
    refine ⟨σ', ?_, q2, fun k hk => by rw [q3 k hk, t4 k hk], by rw [q4, t5]⟩
    rw [show (((d.lo v).toNat : Nat) : Int) = d.lo v from by omega, ← hz] at t1
    rw [← q1, ← t1, f_X1_fewestVenues_57]
    simp (disch := omega) only [↓reduceIte, gd_t, bd_s, nm_W, nm_I, I_add, I_sub, I_mul, I_neg, I_le_t, I_le_f, I_lt_t, I_lt_f, I_eq_t, I_eq_f, I_inb', I_ix', Int.toNat_natCast, decide_true, decide_false, Bool.not_false, Bool.not_true, if_true, if_false, wi_eq, wi_eq', wi_ne, wi_row, wi_2, N0, N1, N2, N3, N4, N5, N6, N7, N8, N9, N10, N11, N12, N13, N14, N15, N16, N17, N18, N19, N20, N21, N22, N23, N24, N25, N26, N27, N28, N29, N30, N31, N32, N33, N34, N35, N36, N37, N38, N39, N40, N41, N42, N43, N45, N48, N57, N59, N88, N89, N97, N99, N120, N121, N122, N179, N200, N255, N300, N400, N880, N900, N999, N1019, N50000000, N100000000, N1000000000, N2147483647, N2147483648]
theorem c_fw3 {m V q : Nat} {p : Int} {d : MD} (hm : 10 < m) (hd : MDok d V) (hp : R p) (hq : q ≤ 120) :
    ∀ (r v n : Nat) (z : Int) (σ : Wd), z = (v : Int) → v + r = V → r < n → CV m σ V d → σ.1 m 1 = I p → (∀ w, w ≤ q → σ.1 9 w = I (enc 1000000000 (fw d p v w))) →
      ∃ σ', f_X1_fewestVenues_31 m n (I (q : Int)) (I z) σ = some (I (enc 1000000000 (fw d p V (bu (fw d p V) q))), σ') ∧ (∀ k, k ≠ 9 → σ'.1 k = σ.1 k) ∧ σ'.2 = σ.2
  | 0, v, n + 1, z, σ, hz, hv, _, h, hl, hw => by
    have h5 := hd.1
    have hv : v = V := by omega
    subst hv
    have e := mostU (σ := σ) (q0 := 9) (l0 := 121) (f := fw d p v) (by decide) (by decide) q FU (q : Int) rfl (by show _ < 6000; omega) hq (fun w h1 => ⟨hw w h1, OB_mono (by omega) (fw_OB v w)⟩)
    have bl := bu_le (f := fw d p v) q
    refine ⟨σ, ?_, fun _ _ => rfl, rfl⟩
    rw [f_X1_fewestVenues_31]
    unfold f_X1_mostUnits
    simp (disch := omega) only [↓reduceIte, gd_t, bd_s, nm_W, nm_I, I_add, I_sub, I_mul, I_neg, I_le_t, I_le_f, I_lt_t, I_lt_f, I_eq_t, I_eq_f, I_inb', I_ix', Int.toNat_natCast, decide_true, decide_false, Bool.not_false, Bool.not_true, if_true, if_false, wi_eq, wi_eq', wi_ne, wi_row, wi_2, N0, N1, N2, N3, N4, N5, N6, N7, N8, N9, N10, N11, N12, N13, N14, N15, N16, N17, N18, N19, N20, N21, N22, N23, N24, N25, N26, N27, N28, N29, N30, N31, N32, N33, N34, N35, N36, N37, N38, N39, N40, N41, N42, N43, N45, N48, N57, N59, N88, N89, N97, N99, N120, N121, N122, N179, N200, N255, N300, N400, N880, N900, N999, N1019, N50000000, N100000000, N1000000000, N2147483647, N2147483648, h.1, e, hw _ bl]
  | r + 1, v, n + 1, z, σ, hz, hv, hn, h, hl, hw => by
    subst hz
    have h5 := hd.1
    have hvV : v < V := by omega
    obtain ⟨τ, t1, t2, t3, t4⟩ := c_fw2 (m := m) (p := p) (k31 := f_X1_fewestVenues_31 m n) hd hvV hq q FU (q : Int) σ rfl (Nat.le_refl _) (by show _ < 6000; omega) hw (fun w g1 g2 => absurd g1 (by omega))
    obtain ⟨σ', q1, q2, q3⟩ := c_fw3 hm hd hp hq r (v + 1) n ((v : Int) + 1) τ (by omega) (by omega) (by omega) (CV_congr h (fun k hk => t3 k (by omega))) (by rw [t3 m (by omega)]; exact hl) t2
    refine ⟨σ', ?_, fun k hk => by rw [q2 k hk, t3 k hk], by rw [q3, t4]⟩
    have er := kx_whl (u := q) (p := p) (but := -1) hd hvV
    rw [if_neg (by omega)] at er
    have e2 := cWhole h hd hvV hp hl (q := (q : Int)) (by omega) (by omega)
    rw [er] at e2
    rw [← q1, ← t1, f_X1_fewestVenues_31]
    simp (disch := omega) only [↓reduceIte, gd_t, bd_s, nm_W, nm_I, I_add, I_sub, I_mul, I_neg, I_le_t, I_le_f, I_lt_t, I_lt_f, I_eq_t, I_eq_f, I_inb', I_ix', Int.toNat_natCast, decide_true, decide_false, Bool.not_false, Bool.not_true, if_true, if_false, wi_eq, wi_eq', wi_ne, wi_row, wi_2, N0, N1, N2, N3, N4, N5, N6, N7, N8, N9, N10, N11, N12, N13, N14, N15, N16, N17, N18, N19, N20, N21, N22, N23, N24, N25, N26, N27, N28, N29, N30, N31, N32, N33, N34, N35, N36, N37, N38, N39, N40, N41, N42, N43, N45, N48, N57, N59, N88, N89, N97, N99, N120, N121, N122, N179, N200, N255, N300, N400, N880, N900, N999, N1019, N50000000, N100000000, N1000000000, N2147483647, N2147483648, h.1, cLot h hd hvV, e2]
    rfl
theorem c_fw4 {m V q : Nat} {p : Int} {d : MD} (hm : 10 < m) (hd : MDok d V) (hp : R p) (hq : q ≤ 120) :
    ∀ (r u n : Nat) (z : Int) (σ : Wd), z = (u : Int) → u + r = q + 1 → r < n → CV m σ V d → σ.1 m 1 = I p → (∀ w, w < u → σ.1 9 w = I (enc 1000000000 (fw d p 0 w))) →
      ∃ σ', f_X1_fewestVenues_2 m n (I (q : Int)) (I z) σ = some (I (enc 1000000000 (fw d p V (bu (fw d p V) q))), σ') ∧ (∀ k, k ≠ 9 → σ'.1 k = σ.1 k) ∧ σ'.2 = σ.2
  | 0, u, n + 1, z, σ, hz, hu, _, h, hl, hw => by
    have h5 := hd.1
    obtain ⟨σ', q1, q2, q3⟩ := c_fw3 (q := q) hm hd hp hq V 0 FU 0 σ rfl (by omega) (by show _ < 6000; omega) h hl (fun w h1 => hw w (by omega))
    refine ⟨σ', ?_, q2, q3⟩
    rw [← q1, f_X1_fewestVenues_2]
    simp (disch := omega) only [↓reduceIte, gd_t, bd_s, nm_W, nm_I, I_add, I_sub, I_mul, I_neg, I_le_t, I_le_f, I_lt_t, I_lt_f, I_eq_t, I_eq_f, I_inb', I_ix', Int.toNat_natCast, decide_true, decide_false, Bool.not_false, Bool.not_true, if_true, if_false, wi_eq, wi_eq', wi_ne, wi_row, wi_2, N0, N1, N2, N3, N4, N5, N6, N7, N8, N9, N10, N11, N12, N13, N14, N15, N16, N17, N18, N19, N20, N21, N22, N23, N24, N25, N26, N27, N28, N29, N30, N31, N32, N33, N34, N35, N36, N37, N38, N39, N40, N41, N42, N43, N45, N48, N57, N59, N88, N89, N97, N99, N120, N121, N122, N179, N200, N255, N300, N400, N880, N900, N999, N1019, N50000000, N100000000, N1000000000, N2147483647, N2147483648]
  | r + 1, u, n + 1, z, σ, hz, hu, hn, h, hl, hw => by
    have tz : z.toNat = u := by omega
    obtain ⟨σ', q1, q2, q3⟩ := c_fw4 hm hd hp hq r (u + 1) n (z + 1) (wi σ 9 u (I (enc 1000000000 (fw d p 0 u)))) (by omega) (by omega) (by omega) (CV_congr h (fun k hk => wi_row (by omega))) (by rw [wi_row (by omega)]; exact hl)
      (fun w h1 => by
        by_cases c : w = u
        · subst c; rw [wi_eq]
        · rw [wi_ne c]; exact hw w (by omega))
    refine ⟨σ', ?_, fun k hk => by rw [q2 k hk, wi_row hk], by rw [q3, wi_2]⟩
    rw [← q1, f_X1_fewestVenues_2]
    by_cases c : u = 0
    · rw [show fw d p 0 u = some 0 from by unfold fw; rw [if_pos c]]
      simp (disch := omega) only [↓reduceIte, gd_t, bd_s, nm_W, nm_I, I_add, I_sub, I_mul, I_neg, I_le_t, I_le_f, I_lt_t, I_lt_f, I_eq_t, I_eq_f, I_inb', I_ix', Int.toNat_natCast, decide_true, decide_false, Bool.not_false, Bool.not_true, if_true, if_false, wi_eq, wi_eq', wi_ne, wi_row, wi_2, N0, N1, N2, N3, N4, N5, N6, N7, N8, N9, N10, N11, N12, N13, N14, N15, N16, N17, N18, N19, N20, N21, N22, N23, N24, N25, N26, N27, N28, N29, N30, N31, N32, N33, N34, N35, N36, N37, N38, N39, N40, N41, N42, N43, N45, N48, N57, N59, N88, N89, N97, N99, N120, N121, N122, N179, N200, N255, N300, N400, N880, N900, N999, N1019, N50000000, N100000000, N1000000000, N2147483647, N2147483648, f_X1_fewestVenues_22, tz, enc]
    · rw [show fw d p 0 u = none from by unfold fw; rw [if_neg c]]
      simp (disch := omega) only [↓reduceIte, gd_t, bd_s, nm_W, nm_I, I_add, I_sub, I_mul, I_neg, I_le_t, I_le_f, I_lt_t, I_lt_f, I_eq_t, I_eq_f, I_inb', I_ix', Int.toNat_natCast, decide_true, decide_false, Bool.not_false, Bool.not_true, if_true, if_false, wi_eq, wi_eq', wi_ne, wi_row, wi_2, N0, N1, N2, N3, N4, N5, N6, N7, N8, N9, N10, N11, N12, N13, N14, N15, N16, N17, N18, N19, N20, N21, N22, N23, N24, N25, N26, N27, N28, N29, N30, N31, N32, N33, N34, N35, N36, N37, N38, N39, N40, N41, N42, N43, N45, N48, N57, N59, N88, N89, N97, N99, N120, N121, N122, N179, N200, N255, N300, N400, N880, N900, N999, N1019, N50000000, N100000000, N1000000000, N2147483647, N2147483648, f_X1_fewestVenues_22, tz, enc]
theorem cFewest {m : Nat} {σ : Wd} {V q : Nat} {p : Int} {d : MD} (hm : 10 < m) (hd : MDok d V) (hp : R p) (hq : q ≤ 120) (h : CV m σ V d) (hl : σ.1 m 1 = I p) :
    ∃ σ', f_X1_fewestVenues m (I (q : Int)) σ = some (I (enc 1000000000 (fw d p V (bu (fw d p V) q))), σ') ∧ (∀ k, k ≠ 9 → σ'.1 k = σ.1 k) ∧ σ'.2 = σ.2 :=
  c_fw4 hm hd hp hq (q + 1) 0 FU 0 σ rfl (by omega) (by show _ < 6000; omega) h hl (fun w hw => absurd hw (by omega))
end
section
/-! PURE: the fewest venues, as the reference looks for them: over all sets -/
def orf (f : Nat → Bool) : Nat → Bool
  | 0 => f 0
  | K + 1 => orf f K || f (K + 1)
theorem orf_iff {f : Nat → Bool} : ∀ K, orf f K = true ↔ ∃ i, i ≤ K ∧ f i = true
  | 0 => ⟨fun h => ⟨0, Nat.le_refl _, h⟩, fun ⟨i, h1, h2⟩ => by
      have : i = 0 := by omega
      subst this
      exact h2⟩
  | K + 1 => by
    unfold orf
    rw [Bool.or_eq_true, orf_iff K]
    constructor
    · rintro (⟨i, h1, h2⟩ | h)
      · exact ⟨i, by omega, h2⟩
      · exact ⟨K + 1, Nat.le_refl _, h⟩
    · rintro ⟨i, h1, h2⟩
      by_cases c : i = K + 1
      · subst c; exact Or.inr h2
      · exact Or.inl ⟨i, by omega, h2⟩
def rc (d : MD) (p : Int) (s : Nat → Bool) : Nat → Nat → Bool
  | 0, u => decide (u = 0)
  | v + 1, u => if s v then orf (fun i => rc d p s v (u - i * (d.lo v).toNat)) (kx d p (-1) v u) else rc d p s v u
def bm (f : Nat → Bool) : Nat → Nat
  | 0 => 0
  | u + 1 => if f (u + 1) then u + 1 else bm f u
theorem rc_0 {d : MD} {p : Int} {s : Nat → Bool} : ∀ v, rc d p s v 0 = true
  | 0 => rfl
  | v + 1 => by
    unfold rc
    split
    · rw [orf_iff]
      exact ⟨0, by omega, by rw [Nat.zero_mul]; exact rc_0 v⟩
    · exact rc_0 v
theorem bm_le {f : Nat → Bool} : ∀ u, bm f u ≤ u
  | 0 => Nat.le_refl _
  | u + 1 => by
    unfold bm
    split
    · exact Nat.le_refl _
    · have := bm_le (f := f) u
      omega
theorem bm_at {f : Nat → Bool} (h : f 0 = true) : ∀ u, f (bm f u) = true
  | 0 => h
  | u + 1 => by
    unfold bm
    split
    · assumption
    · exact bm_at h u
theorem bm_ge {f : Nat → Bool} {w : Nat} (h : f w = true) : ∀ u, w ≤ u → w ≤ bm f u
  | 0, h2 => h2
  | u + 1, h2 => by
    unfold bm
    split
    · exact h2
    · rename_i c
      have : w ≠ u + 1 := fun e => c (e ▸ h)
      exact bm_ge h u (by omega)
theorem bu_ge {f : Nat → Option Int} {w : Nat} (h : f w ≠ none) : ∀ u, w ≤ u → w ≤ bu f u
  | 0, h2 => h2
  | u + 1, h2 => by
    unfold bu
    split
    · rename_i c
      have : w ≠ u + 1 := fun e => h (e ▸ c)
      exact bu_ge h u (by omega)
    · exact h2
def bn (b : Bool) : Int := if b then 1 else 0
def cnt (s : Nat → Bool) : Nat → Int
  | 0 => 0
  | v + 1 => cnt s v + bn (s v)
theorem bn_bnd (b : Bool) : 0 ≤ bn b ∧ bn b ≤ 1 := by cases b <;> decide
theorem cnt_bnd {s : Nat → Bool} : ∀ v, 0 ≤ cnt s v ∧ cnt s v ≤ (v : Int)
  | 0 => ⟨Int.le_refl _, Int.le_refl _⟩
  | v + 1 => by
    have := cnt_bnd (s := s) v
    have := bn_bnd (s v)
    unfold cnt
    omega
theorem mnf_no {f : Nat → Option Int} : ∀ {K : Nat}, mnf f K = none → ∀ i, i ≤ K → f i = none
  | 0, h, i, hi => by
    have : i = 0 := by omega
    subst this
    exact h
  | K + 1, h, i, hi => by
    have h : omin (mnf f K) (f (K + 1)) = none := h
    cases h1 : mnf f K with
    | none =>
      rw [h1, none_omin] at h
      by_cases e : i = K + 1
      · subst e; exact h
      · exact mnf_no h1 i (by omega)
    | some z =>
      cases h2 : f (K + 1) with
      | none => rw [h1, h2] at h; cases h
      | some w => rw [h1, h2] at h; cases h
/-- a set that reaches u has as many venues as the fewest, or more -/
theorem rc_fw {d : MD} {p : Int} {s : Nat → Bool} : ∀ (v u : Nat), rc d p s v u = true → ∃ x, fw d p v u = some x ∧ x ≤ cnt s v
  | 0, u, h => by
    have h : decide (u = 0) = true := h
    have : u = 0 := of_decide_eq_true h
    subst this
    exact ⟨0, rfl, Int.le_refl _⟩
  | v + 1, u, h => by
    have key : ∀ i, i ≤ kx d p (-1) v u → ∀ y, fF (fw d p v) u (d.lo v).toNat i = some y → ∃ x, fw d p (v + 1) u = some x ∧ x ≤ y := by
      intro i hi y hy
      cases hm : mnf (fF (fw d p v) u (d.lo v).toNat) (kx d p (-1) v u) with
      | none =>
        have := mnf_no hm i hi
        rw [this] at hy
        cases hy
      | some x => exact ⟨x, hm, mnf_le hm i hi y hy⟩
    have bb := bn_bnd (s v)
    unfold rc at h
    by_cases c : s v = true
    · rw [if_pos c, orf_iff] at h
      obtain ⟨i, h1, h2⟩ := h
      obtain ⟨x, e1, e2⟩ := rc_fw v _ h2
      unfold cnt
      rw [c, show bn true = 1 from rfl]
      by_cases c2 : i = 0
      · subst c2
        rw [Nat.zero_mul, Nat.sub_zero] at e1
        obtain ⟨y, g1, g2⟩ := key 0 (by omega) x (by unfold fF; rw [if_pos rfl]; exact e1)
        exact ⟨y, g1, by omega⟩
      · obtain ⟨y, g1, g2⟩ := key i h1 (1 + x) (by unfold fF; rw [if_neg c2, e1]; rfl)
        exact ⟨y, g1, by omega⟩
    · rw [if_neg c] at h
      obtain ⟨x, e1, e2⟩ := rc_fw v u h
      obtain ⟨y, g1, g2⟩ := key 0 (by omega) x (by unfold fF; rw [if_pos rfl]; exact e1)
      unfold cnt
      exact ⟨y, g1, by omega⟩
theorem rc_congr {d : MD} {p : Int} {s t : Nat → Bool} : ∀ (v u : Nat), (∀ w, w < v → s w = t w) → rc d p s v u = rc d p t v u
  | 0, _, _ => rfl
  | v + 1, u, h => by
    unfold rc
    rw [h v (by omega), rc_congr v u (fun w hw => h w (by omega))]
    have : (fun i => rc d p s v (u - i * (d.lo v).toNat)) = (fun i => rc d p t v (u - i * (d.lo v).toNat)) := funext (fun i => rc_congr v _ (fun w hw => h w (by omega)))
    rw [this]
theorem cnt_congr {s t : Nat → Bool} : ∀ (v : Nat), (∀ w, w < v → s w = t w) → cnt s v = cnt t v
  | 0, _ => rfl
  | v + 1, h => by
    unfold cnt
    rw [h v (by omega), cnt_congr v (fun w hw => h w (by omega))]
theorem bit_add : ∀ v, v < 5 → ∀ S, S < 2 ^ v → (∀ w, w < v → (S + 2 ^ v).testBit w = S.testBit w) ∧ (S + 2 ^ v).testBit v = true ∧ S.testBit v = false := by decide
/-- and some set has as many -/
theorem fw_rc {d : MD} {p : Int} : ∀ (v u : Nat) (x : Int), v ≤ 5 → fw d p v u = some x → ∃ S, S < 2 ^ v ∧ rc d p S.testBit v u = true ∧ cnt S.testBit v = x
  | 0, u, x, _, h => by
    unfold fw at h
    split at h
    · rename_i c
      exact ⟨0, by decide, decide_eq_true c, Option.some.inj h⟩
    · cases h
  | v + 1, u, x, hv, h => by
    obtain ⟨i, h1, h2⟩ := mnf_at (show mnf _ _ = some x from h)
    unfold fF at h2
    have p2 : 2 ^ (v + 1) = 2 ^ v * 2 := Nat.pow_succ 2 v
    by_cases c : i = 0
    · rw [if_pos c] at h2
      obtain ⟨S, s1, s2, s3⟩ := fw_rc v u x (by omega) h2
      obtain ⟨-, -, b⟩ := bit_add v (by omega) S s1
      refine ⟨S, by omega, ?_, ?_⟩
      · unfold rc
        rw [b]
        exact s2
      · unfold cnt
        rw [b, s3]
        show x + 0 = x
        omega
    · rw [if_neg c] at h2
      cases hg : fw d p v (u - i * (d.lo v).toNat) with
      | none => rw [hg] at h2; cases h2
      | some y =>
        rw [hg] at h2
        have h2 : some (1 + y) = some x := h2
        have h2 := Option.some.inj h2
        obtain ⟨S, s1, s2, s3⟩ := fw_rc v _ y (by omega) hg
        obtain ⟨a, b, -⟩ := bit_add v (by omega) S s1
        refine ⟨S + 2 ^ v, by omega, ?_, ?_⟩
        · unfold rc
          rw [b, if_pos rfl, orf_iff]
          refine ⟨i, h1, ?_⟩
          show rc d p (S + 2 ^ v).testBit v (u - i * (d.lo v).toNat) = true
          rw [rc_congr v _ a]
          exact s2
        · unfold cnt
          rw [b, cnt_congr v a, s3, show bn true = 1 from rfl]
          omega
theorem fw_full {d : MD} {p : Int} : ∀ (v u : Nat), fw d p v u ≠ none → rc d p (fun _ => true) v u = true
  | 0, u, h => by
    unfold fw at h
    by_cases c : u = 0
    · exact decide_eq_true c
    · rw [if_neg c] at h
      exact absurd rfl h
  | v + 1, u, h => by
    obtain ⟨x, hx⟩ := Option.ne_none_iff_exists'.mp h
    obtain ⟨i, h1, h2⟩ := mnf_at (show mnf _ _ = some x from hx)
    unfold rc
    rw [if_pos rfl, orf_iff]
    refine ⟨i, h1, fw_full v _ ?_⟩
    unfold fF at h2
    intro e
    by_cases c : i = 0
    · rw [if_pos c] at h2
      subst c
      rw [Nat.zero_mul, Nat.sub_zero, h2] at e
      cases e
    · rw [if_neg c, e] at h2
      cases h2
theorem bm_full {d : MD} {p : Int} {V : Nat} : ∀ q, bm (rc d p (fun _ => true) V) q = bu (fw d p V) q
  | 0 => rfl
  | q + 1 => by
    unfold bm bu
    rw [bm_full q]
    by_cases c : fw d p V (q + 1) = none
    · rw [if_pos c, if_neg]
      intro h
      obtain ⟨x, hx, -⟩ := rc_fw V (q + 1) h
      rw [c] at hx
      cases hx
    · rw [if_neg c, if_pos (fw_full V _ c)]
/-! the reference's loops -/
theorem bn_nar (b : Bool) : vp_nar .boolean (I (bn b)) = I (bn b) := by cases b <;> rfl
theorem r_rc1 {V v u q : Nat} {p : Int} {x1 : Int32} {d : MD} {g : Nat → Bool} {k31 : Int32 → Int32 → Int32 → Wd → Option (Int32 × Wd)} {k54 : Int32 → Int32 → Int32 → Int32 → Wd → Option (Int32 × Wd)} (hd : MDok d V) (hv : v < V) (hp : R p) (hu : u ≤ 120) (hu0 : 0 < u) :
    ∀ (r i n : Nat) (z : Int) (acc : Bool) (σ : Wd), z = ((i * (d.lo v).toNat : Nat) : Int) → 1 ≤ i → i + r = kx d p (-1) v u + 1 → r < n → RV σ V d → σ.1 102 12 = I p → acc = orf (fun i => g (u - i * (d.lo v).toNat)) (i - 1) → σ.1 119 u = I (bn acc) → (∀ w, w < u → σ.1 119 w = I (bn (g w))) →
      ∃ σ', f_X7_mostOf_66 k31 k54 n x1 (I (q : Int)) (I (v : Int)) (I (u : Int)) (I z) σ = k54 x1 (I (q : Int)) (I (v : Int)) (I ((u : Int) - 1)) σ'
        ∧ σ'.1 119 u = I (bn (orf (fun i => g (u - i * (d.lo v).toNat)) (kx d p (-1) v u))) ∧ (∀ w, w ≠ u → σ'.1 119 w = σ.1 119 w) ∧ (∀ k, k ≠ 119 → σ'.1 k = σ.1 k) ∧ σ'.2 = σ.2
  | 0, i, n + 1, z, acc, σ, hz, hi1, hi, _, h, hl, ha, hacc, hg => by
    obtain ⟨-, lb, -⟩ := hd.2 v hv
    have db := dep_bnd (p := p) hd hv
    have l1 : 1 ≤ (d.lo v).toNat := by omega
    have h5 := hd.1
    have kk : kx d p (-1) v u = min u (dep d p v).toNat / (d.lo v).toNat := by unfold kx; rw [if_neg (by omega)]
    obtain ⟨k1, k2⟩ := div_box (M := min u (dep d p v).toNat) l1
    rw [← kk] at k1 k2
    have hi : i = kx d p (-1) v u + 1 := by omega
    have e : i * (d.lo v).toNat = kx d p (-1) v u * (d.lo v).toNat + (d.lo v).toNat := by rw [hi]; exact Nat.succ_mul _ _
    refine ⟨σ, ?_, by rw [hacc, ha, show i - 1 = kx d p (-1) v u from by omega], fun _ _ => rfl, fun _ _ => rfl, rfl⟩
    rw [f_X7_mostOf_66]
    by_cases c : (u : Int) < z
    · simp (disch := omega) only [↓reduceIte, gd_t, bd_s, nm_W, nm_I, I_add, I_sub, I_mul, I_neg, I_le_t, I_le_f, I_lt_t, I_lt_f, I_eq_t, I_eq_f, I_inb', I_ix', Int.toNat_natCast, decide_true, decide_false, Bool.not_false, Bool.not_true, if_true, if_false, wi_eq, wi_eq', wi_ne, wi_row, wi_2, N0, N1, N2, N3, N4, N5, N6, N7, N8, N9, N10, N11, N12, N13, N14, N15, N16, N17, N18, N19, N20, N21, N22, N23, N24, N25, N26, N27, N28, N29, N30, N31, N32, N33, N34, N35, N36, N37, N38, N39, N40, N41, N42, N43, N45, N48, N57, N59, N88, N89, N97, N99, N120, N121, N122, N179, N200, N255, N300, N400, N880, N900, N999, N1019, N50000000, N100000000, N1000000000, N2147483647, N2147483648, f_X7_mostOf_123]
      rfl
    · simp (disch := omega) only [↓reduceIte, gd_t, bd_s, nm_W, nm_I, I_add, I_sub, I_mul, I_neg, I_le_t, I_le_f, I_lt_t, I_lt_f, I_eq_t, I_eq_f, I_inb', I_ix', Int.toNat_natCast, decide_true, decide_false, Bool.not_false, Bool.not_true, if_true, if_false, wi_eq, wi_eq', wi_ne, wi_row, wi_2, N0, N1, N2, N3, N4, N5, N6, N7, N8, N9, N10, N11, N12, N13, N14, N15, N16, N17, N18, N19, N20, N21, N22, N23, N24, N25, N26, N27, N28, N29, N30, N31, N32, N33, N34, N35, N36, N37, N38, N39, N40, N41, N42, N43, N45, N48, N57, N59, N88, N89, N97, N99, N120, N121, N122, N179, N200, N255, N300, N400, N880, N900, N999, N1019, N50000000, N100000000, N1000000000, N2147483647, N2147483648, f_X7_mostOf_123, rDepth h hd hv hp hl]
      rfl
  | r + 1, i, n + 1, z, acc, σ, hz, hi1, hi, hn, h, hl, ha, hacc, hg => by
    obtain ⟨-, lb, -⟩ := hd.2 v hv
    have db := dep_bnd (p := p) hd hv
    have l1 : 1 ≤ (d.lo v).toNat := by omega
    have h5 := hd.1
    have kk : kx d p (-1) v u = min u (dep d p v).toNat / (d.lo v).toNat := by unfold kx; rw [if_neg (by omega)]
    obtain ⟨k1, k2⟩ := div_box (M := min u (dep d p v).toNat) l1
    rw [← kk] at k1 k2
    have hiK : i ≤ kx d p (-1) v u := by omega
    have m1 : i * (d.lo v).toNat ≤ kx d p (-1) v u * (d.lo v).toNat := Nat.mul_le_mul_right _ hiK
    have m2 : 1 * (d.lo v).toNat ≤ i * (d.lo v).toNat := Nat.mul_le_mul_right _ hi1
    have e : (i + 1) * (d.lo v).toNat = i * (d.lo v).toNat + (d.lo v).toNat := Nat.succ_mul _ _
    have t1 : ((u : Int) - z).toNat = u - i * (d.lo v).toNat := by omega
    cases hb : acc with
    | true =>
      rw [hb] at hacc ha
      have full : orf (fun i => g (u - i * (d.lo v).toNat)) (kx d p (-1) v u) = true := by
        rw [orf_iff]
        obtain ⟨j, j1, j2⟩ := (orf_iff _).mp ha.symm
        exact ⟨j, by omega, j2⟩
      refine ⟨σ, ?_, by rw [hacc, full], fun _ _ => rfl, fun _ _ => rfl, rfl⟩
      rw [f_X7_mostOf_66]
      simp (disch := omega) only [↓reduceIte, gd_t, bd_s, nm_W, nm_I, I_add, I_sub, I_mul, I_neg, I_le_t, I_le_f, I_lt_t, I_lt_f, I_eq_t, I_eq_f, I_inb', I_ix', Int.toNat_natCast, decide_true, decide_false, Bool.not_false, Bool.not_true, if_true, if_false, wi_eq, wi_eq', wi_ne, wi_row, wi_2, N0, N1, N2, N3, N4, N5, N6, N7, N8, N9, N10, N11, N12, N13, N14, N15, N16, N17, N18, N19, N20, N21, N22, N23, N24, N25, N26, N27, N28, N29, N30, N31, N32, N33, N34, N35, N36, N37, N38, N39, N40, N41, N42, N43, N45, N48, N57, N59, N88, N89, N97, N99, N120, N121, N122, N179, N200, N255, N300, N400, N880, N900, N999, N1019, N50000000, N100000000, N1000000000, N2147483647, N2147483648, rDepth h hd hv hp hl, hacc, show bn true = 1 from rfl, f_X7_mostOf_123]
      rfl
    | false =>
      rw [hb] at hacc ha
      have he := hg (u - i * (d.lo v).toNat) (by omega)
      have ea : g (u - i * (d.lo v).toNat) = orf (fun i => g (u - i * (d.lo v).toNat)) (i + 1 - 1) := by
        rw [show i + 1 - 1 = (i - 1) + 1 from by omega]
        show _ = (orf _ (i - 1) || g (u - (i - 1 + 1) * (d.lo v).toNat))
        rw [← ha, show i - 1 + 1 = i from by omega, Bool.false_or]
      have h' : RV (wi σ 119 u (I (bn (g (u - i * (d.lo v).toNat))))) V d := RV_congr h (by rw [wi_row (by decide)]) (wi_row (by decide)) (wi_row (by decide)) (wi_row (by decide))
      obtain ⟨σ', q1, q2, q3, q4, q5⟩ := r_rc1 (q := q) (x1 := x1) (k31 := k31) (k54 := k54) hd hv hp hu hu0 r (i + 1) n (z + d.lo v) (g (u - i * (d.lo v).toNat)) (wi σ 119 u (I (bn (g (u - i * (d.lo v).toNat))))) (by omega) (by omega) (by omega) (by omega) h' (by rw [wi_row (by decide)]; exact hl) ea wi_eq (fun w hw => by rw [wi_ne (by omega)]; exact hg w hw)
      refine ⟨σ', ?_, q2, fun w hw => by rw [q3 w hw, wi_ne hw], fun k hk => by rw [q4 k hk, wi_row hk], by rw [q5, wi_2]⟩
      rw [← q1, f_X7_mostOf_66]
      simp (disch := omega) only [↓reduceIte, gd_t, bd_s, nm_W, nm_I, I_add, I_sub, I_mul, I_neg, I_le_t, I_le_f, I_lt_t, I_lt_f, I_eq_t, I_eq_f, I_inb', I_ix', Int.toNat_natCast, decide_true, decide_false, Bool.not_false, Bool.not_true, if_true, if_false, wi_eq, wi_eq', wi_ne, wi_row, wi_2, N0, N1, N2, N3, N4, N5, N6, N7, N8, N9, N10, N11, N12, N13, N14, N15, N16, N17, N18, N19, N20, N21, N22, N23, N24, N25, N26, N27, N28, N29, N30, N31, N32, N33, N34, N35, N36, N37, N38, N39, N40, N41, N42, N43, N45, N48, N57, N59, N88, N89, N97, N99, N120, N121, N122, N179, N200, N255, N300, N400, N880, N900, N999, N1019, N50000000, N100000000, N1000000000, N2147483647, N2147483648, rDepth h hd hv hp hl, hacc, show bn false = 0 from rfl, t1, he, bn_nar, rLot h' hd hv]
theorem r_rc2 {V v q : Nat} {p : Int} {x1 : Int32} {d : MD} {s : Nat → Bool} {k31 : Int32 → Int32 → Int32 → Wd → Option (Int32 × Wd)} (hd : MDok d V) (hv : v < V) (hp : R p) (hs : s v = true) :
    ∀ (u n : Nat) (z : Int) (σ : Wd), z = (u : Int) → u ≤ 120 → u < n → RV σ V d → σ.1 102 12 = I p → (∀ w, w ≤ u → σ.1 119 w = I (bn (rc d p s v w))) → (∀ w, u < w → w ≤ 120 → σ.1 119 w = I (bn (rc d p s (v + 1) w))) →
      ∃ σ', f_X7_mostOf_54 k31 n x1 (I (q : Int)) (I (v : Int)) (I z) σ = k31 x1 (I (q : Int)) (I ((v : Int) + 1)) σ'
        ∧ (∀ w, w ≤ 120 → σ'.1 119 w = I (bn (rc d p s (v + 1) w))) ∧ (∀ k, k ≠ 119 → σ'.1 k = σ.1 k) ∧ σ'.2 = σ.2
  | 0, n + 1, z, σ, hz, _, _, h, hl, h1, h2 => by
    refine ⟨σ, ?_, fun w hw => ?_, fun _ _ => rfl, rfl⟩
    · rw [f_X7_mostOf_54]
      simp (disch := omega) only [↓reduceIte, gd_t, bd_s, nm_W, nm_I, I_add, I_sub, I_mul, I_neg, I_le_t, I_le_f, I_lt_t, I_lt_f, I_eq_t, I_eq_f, I_inb', I_ix', Int.toNat_natCast, decide_true, decide_false, Bool.not_false, Bool.not_true, if_true, if_false, wi_eq, wi_eq', wi_ne, wi_row, wi_2, N0, N1, N2, N3, N4, N5, N6, N7, N8, N9, N10, N11, N12, N13, N14, N15, N16, N17, N18, N19, N20, N21, N22, N23, N24, N25, N26, N27, N28, N29, N30, N31, N32, N33, N34, N35, N36, N37, N38, N39, N40, N41, N42, N43, N45, N48, N57, N59, N88, N89, N97, N99, N120, N121, N122, N179, N200, N255, N300, N400, N880, N900, N999, N1019, N50000000, N100000000, N1000000000, N2147483647, N2147483648, f_X7_mostOf_129]
    · by_cases c : w = 0
      · subst c
        rw [h1 0 (by omega), rc_0, rc_0]
      · exact h2 w (by omega) hw
  | u + 1, n + 1, z, σ, hz, hu, hn, h, hl, h1, h2 => by
    obtain ⟨-, lb, -⟩ := hd.2 v hv
    have kb := kx_le (p := p) (but := -1) (u := u + 1) hd hv
    have kb2 : kx d p (-1) v (u + 1) ≤ kx d p (-1) v (u + 1) * (d.lo v).toNat := Nat.le_mul_of_pos_right _ (by omega)
    obtain ⟨τ, t1, t2, t3, t4, t5⟩ := r_rc1 (q := q) (x1 := x1) (g := rc d p s v) (k31 := k31) (k54 := f_X7_mostOf_54 k31 n) hd hv hp hu (by omega) (kx d p (-1) v (u + 1)) 1 FU (d.lo v) (rc d p s v (u + 1)) σ (by rw [Nat.one_mul]; omega) (by omega) (by omega) (by show _ < 6000; omega) h hl
      (by show _ = rc d p s v (u + 1 - 0 * (d.lo v).toNat); rw [Nat.zero_mul]; rfl) (h1 _ (Nat.le_refl _)) (fun w hw => h1 w (by omega))
    have er : rc d p s (v + 1) (u + 1) = orf (fun i => rc d p s v (u + 1 - i * (d.lo v).toNat)) (kx d p (-1) v (u + 1)) := by
      rw [rc, if_pos hs]
    rw [← er] at t2
    obtain ⟨σ', q1, q2, q3, q4⟩ := r_rc2 (x1 := x1) (q := q) (k31 := k31) hd hv hp hs u n (z - 1) τ (by omega) (by omega) (by omega)
      (RV_congr h (by rw [t4 102 (by decide)]) (t4 103 (by decide)) (t4 104 (by decide)) (t4 112 (by decide))) (by rw [t4 102 (by decide)]; exact hl)
      (fun w hw => by rw [t3 w (by omega)]; exact h1 w (by omega))
      (fun w g1 g2 => by
        by_cases c : w = u + 1
        · subst c; exact t2
        · rw [t3 w c]; exact h2 w (by omega) g2)
    refine ⟨σ', ?_, q2, fun k hk => by rw [q3 k hk, t4 k hk], by rw [q4, t5]⟩
    rw [← hz] at t1
    rw [← q1, ← t1, f_X7_mostOf_54]
    simp (disch := omega) only [↓reduceIte, gd_t, bd_s, nm_W, nm_I, I_add, I_sub, I_mul, I_neg, I_le_t, I_le_f, I_lt_t, I_lt_f, I_eq_t, I_eq_f, I_inb', I_ix', Int.toNat_natCast, decide_true, decide_false, Bool.not_false, Bool.not_true, if_true, if_false, wi_eq, wi_eq', wi_ne, wi_row, wi_2, N0, N1, N2, N3, N4, N5, N6, N7, N8, N9, N10, N11, N12, N13, N14, N15, N16, N17, N18, N19, N20, N21, N22, N23, N24, N25, N26, N27, N28, N29, N30, N31, N32, N33, N34, N35, N36, N37, N38, N39, N40, N41, N42, N43, N45, N48, N57, N59, N88, N89, N97, N99, N120, N121, N122, N179, N200, N255, N300, N400, N880, N900, N999, N1019, N50000000, N100000000, N1000000000, N2147483647, N2147483648, rLot h hd hv]
theorem r_rc3 {V : Nat} {p : Int} {d : MD} {s : Nat → Bool} (hd : MDok d V) : ∀ (u n : Nat) (z : Int) (σ : Wd), z = (u : Int) → u ≤ 120 → u < n → (∀ w, w ≤ 120 → σ.1 119 w = I (bn (rc d p s V w))) →
      f_X7_mostOf_137 n (I z) σ = some (I (bm (rc d p s V) u : Int), σ)
  | 0, n + 1, z, σ, hz, _, _, h => by
    have tz : z.toNat = 0 := by omega
    rw [f_X7_mostOf_137]
    simp (disch := omega) only [↓reduceIte, gd_t, bd_s, nm_W, nm_I, I_add, I_sub, I_mul, I_neg, I_le_t, I_le_f, I_lt_t, I_lt_f, I_eq_t, I_eq_f, I_inb', I_ix', Int.toNat_natCast, decide_true, decide_false, Bool.not_false, Bool.not_true, if_true, if_false, wi_eq, wi_eq', wi_ne, wi_row, wi_2, N0, N1, N2, N3, N4, N5, N6, N7, N8, N9, N10, N11, N12, N13, N14, N15, N16, N17, N18, N19, N20, N21, N22, N23, N24, N25, N26, N27, N28, N29, N30, N31, N32, N33, N34, N35, N36, N37, N38, N39, N40, N41, N42, N43, N45, N48, N57, N59, N88, N89, N97, N99, N120, N121, N122, N179, N200, N255, N300, N400, N880, N900, N999, N1019, N50000000, N100000000, N1000000000, N2147483647, N2147483648, tz, h 0 (by omega), rc_0, show bn true = 1 from rfl]
    rw [hz]
    rfl
  | u + 1, n + 1, z, σ, hz, hu, hn, h => by
    have tz : z.toNat = u + 1 := by omega
    rw [f_X7_mostOf_137, bm]
    cases hb : rc d p s V (u + 1) with
    | true =>
      simp (disch := omega) only [↓reduceIte, gd_t, bd_s, nm_W, nm_I, I_add, I_sub, I_mul, I_neg, I_le_t, I_le_f, I_lt_t, I_lt_f, I_eq_t, I_eq_f, I_inb', I_ix', Int.toNat_natCast, decide_true, decide_false, Bool.not_false, Bool.not_true, if_true, if_false, wi_eq, wi_eq', wi_ne, wi_row, wi_2, N0, N1, N2, N3, N4, N5, N6, N7, N8, N9, N10, N11, N12, N13, N14, N15, N16, N17, N18, N19, N20, N21, N22, N23, N24, N25, N26, N27, N28, N29, N30, N31, N32, N33, N34, N35, N36, N37, N38, N39, N40, N41, N42, N43, N45, N48, N57, N59, N88, N89, N97, N99, N120, N121, N122, N179, N200, N255, N300, N400, N880, N900, N999, N1019, N50000000, N100000000, N1000000000, N2147483647, N2147483648, tz, h (u + 1) hu, hb, show bn true = 1 from rfl]
      rw [hz]
    | false =>
      simp (disch := omega) only [↓reduceIte, gd_t, bd_s, nm_W, nm_I, I_add, I_sub, I_mul, I_neg, I_le_t, I_le_f, I_lt_t, I_lt_f, I_eq_t, I_eq_f, I_inb', I_ix', Int.toNat_natCast, decide_true, decide_false, Bool.not_false, Bool.not_true, if_true, if_false, wi_eq, wi_eq', wi_ne, wi_row, wi_2, N0, N1, N2, N3, N4, N5, N6, N7, N8, N9, N10, N11, N12, N13, N14, N15, N16, N17, N18, N19, N20, N21, N22, N23, N24, N25, N26, N27, N28, N29, N30, N31, N32, N33, N34, N35, N36, N37, N38, N39, N40, N41, N42, N43, N45, N48, N57, N59, N88, N89, N97, N99, N120, N121, N122, N179, N200, N255, N300, N400, N880, N900, N999, N1019, N50000000, N100000000, N1000000000, N2147483647, N2147483648, tz, h (u + 1) hu, hb, show bn false = 0 from rfl]
      rw [if_neg (show ¬ false = true by decide), r_rc3 hd u n _ σ (by omega) (by omega) (by omega) h]
theorem bit_get : ∀ S, S < 32 → ∀ v, v < 5 → (I ((S : Nat) : Int) >>> (I ((v : Nat) : Int) &&& 31)) &&& 1 = I (bn (S.testBit v)) := by decide
theorem r_rc4 {V q S : Nat} {p : Int} {d : MD} (hd : MDok d V) (hp : R p) (hq : q ≤ 120) (hS : S < 32) :
    ∀ (r v n : Nat) (z : Int) (σ : Wd), z = (v : Int) → v + r = V → r < n → RV σ V d → σ.1 102 12 = I p → (∀ w, w ≤ 120 → σ.1 119 w = I (bn (rc d p S.testBit v w))) →
      ∃ σ', f_X7_mostOf_31 n (I (S : Int)) (I (q : Int)) (I z) σ = some (I (bm (rc d p S.testBit V) q : Int), σ') ∧ (∀ k, k ≠ 119 → σ'.1 k = σ.1 k) ∧ σ'.2 = σ.2
  | 0, v, n + 1, z, σ, hz, hv, _, h, hl, hw => by
    have h5 := hd.1
    have hv : v = V := by omega
    subst hv
    refine ⟨σ, ?_, fun _ _ => rfl, rfl⟩
    rw [f_X7_mostOf_31]
    simp (disch := omega) only [↓reduceIte, gd_t, bd_s, nm_W, nm_I, I_add, I_sub, I_mul, I_neg, I_le_t, I_le_f, I_lt_t, I_lt_f, I_eq_t, I_eq_f, I_inb', I_ix', Int.toNat_natCast, decide_true, decide_false, Bool.not_false, Bool.not_true, if_true, if_false, wi_eq, wi_eq', wi_ne, wi_row, wi_2, N0, N1, N2, N3, N4, N5, N6, N7, N8, N9, N10, N11, N12, N13, N14, N15, N16, N17, N18, N19, N20, N21, N22, N23, N24, N25, N26, N27, N28, N29, N30, N31, N32, N33, N34, N35, N36, N37, N38, N39, N40, N41, N42, N43, N45, N48, N57, N59, N88, N89, N97, N99, N120, N121, N122, N179, N200, N255, N300, N400, N880, N900, N999, N1019, N50000000, N100000000, N1000000000, N2147483647, N2147483648, h.1]
    exact r_rc3 hd q FU _ σ rfl hq (by show _ < 6000; omega) hw
  | r + 1, v, n + 1, z, σ, hz, hv, hn, h, hl, hw => by
    subst hz
    have h5 := hd.1
    have hvV : v < V := by omega
    have eb := bit_get S hS v (by omega)
    rw [N31, N1] at eb
    cases hb : S.testBit v with
    | true =>
      obtain ⟨τ, t1, t2, t3, t4⟩ := r_rc2 (x1 := I (S : Int)) (q := q) (k31 := f_X7_mostOf_31 n) hd hvV hp hb 120 FU 120 σ rfl (Nat.le_refl _) (by decide) h hl hw (fun w g1 g2 => absurd g1 (by omega))
      obtain ⟨σ', q1, q2, q3⟩ := r_rc4 hd hp hq hS r (v + 1) n ((v : Int) + 1) τ (by omega) (by omega) (by omega)
        (RV_congr h (by rw [t3 102 (by decide)]) (t3 103 (by decide)) (t3 104 (by decide)) (t3 112 (by decide))) (by rw [t3 102 (by decide)]; exact hl) t2
      refine ⟨σ', ?_, fun k hk => by rw [q2 k hk, t3 k hk], by rw [q3, t4]⟩
      rw [hb, show bn true = 1 from rfl] at eb
      rw [← q1, ← t1, f_X7_mostOf_31]
      simp (disch := omega) only [↓reduceIte, gd_t, bd_s, nm_W, nm_I, I_add, I_sub, I_mul, I_neg, I_le_t, I_le_f, I_lt_t, I_lt_f, I_eq_t, I_eq_f, I_inb', I_ix', Int.toNat_natCast, decide_true, decide_false, Bool.not_false, Bool.not_true, if_true, if_false, wi_eq, wi_eq', wi_ne, wi_row, wi_2, N0, N1, N2, N3, N4, N5, N6, N7, N8, N9, N10, N11, N12, N13, N14, N15, N16, N17, N18, N19, N20, N21, N22, N23, N24, N25, N26, N27, N28, N29, N30, N31, N32, N33, N34, N35, N36, N37, N38, N39, N40, N41, N42, N43, N45, N48, N57, N59, N88, N89, N97, N99, N120, N121, N122, N179, N200, N255, N300, N400, N880, N900, N999, N1019, N50000000, N100000000, N1000000000, N2147483647, N2147483648, h.1, eb]
    | false =>
      obtain ⟨σ', q1, q2, q3⟩ := r_rc4 hd hp hq hS r (v + 1) n ((v : Int) + 1) σ (by omega) (by omega) (by omega) h hl (fun w h1 => by rw [hw w h1, rc, hb]; rfl)
      refine ⟨σ', ?_, q2, q3⟩
      rw [hb, show bn false = 0 from rfl] at eb
      rw [← q1, f_X7_mostOf_31]
      simp (disch := omega) only [↓reduceIte, gd_t, bd_s, nm_W, nm_I, I_add, I_sub, I_mul, I_neg, I_le_t, I_le_f, I_lt_t, I_lt_f, I_eq_t, I_eq_f, I_inb', I_ix', Int.toNat_natCast, decide_true, decide_false, Bool.not_false, Bool.not_true, if_true, if_false, wi_eq, wi_eq', wi_ne, wi_row, wi_2, N0, N1, N2, N3, N4, N5, N6, N7, N8, N9, N10, N11, N12, N13, N14, N15, N16, N17, N18, N19, N20, N21, N22, N23, N24, N25, N26, N27, N28, N29, N30, N31, N32, N33, N34, N35, N36, N37, N38, N39, N40, N41, N42, N43, N45, N48, N57, N59, N88, N89, N97, N99, N120, N121, N122, N179, N200, N255, N300, N400, N880, N900, N999, N1019, N50000000, N100000000, N1000000000, N2147483647, N2147483648, h.1, eb, f_X7_mostOf_129]
theorem r_rc5 {V q S : Nat} {p : Int} {d : MD} (hd : MDok d V) (hp : R p) (hq : q ≤ 120) (hS : S < 32) :
    ∀ (r u n : Nat) (z : Int) (σ : Wd), z = (u : Int) → u + r = 121 → r < n → RV σ V d → σ.1 102 12 = I p → (∀ w, w < u → σ.1 119 w = I (bn (rc d p S.testBit 0 w))) →
      ∃ σ', f_X7_mostOf_2 n (I (S : Int)) (I (q : Int)) (I z) σ = some (I (bm (rc d p S.testBit V) q : Int), σ') ∧ (∀ k, k ≠ 119 → σ'.1 k = σ.1 k) ∧ σ'.2 = σ.2
  | 0, u, n + 1, z, σ, hz, hu, _, h, hl, hw => by
    have h5 := hd.1
    obtain ⟨σ', q1, q2, q3⟩ := r_rc4 (q := q) hd hp hq hS V 0 FU 0 σ rfl (by omega) (by show _ < 6000; omega) h hl (fun w h1 => hw w (by omega))
    refine ⟨σ', ?_, q2, q3⟩
    rw [← q1, f_X7_mostOf_2]
    simp (disch := omega) only [↓reduceIte, gd_t, bd_s, nm_W, nm_I, I_add, I_sub, I_mul, I_neg, I_le_t, I_le_f, I_lt_t, I_lt_f, I_eq_t, I_eq_f, I_inb', I_ix', Int.toNat_natCast, decide_true, decide_false, Bool.not_false, Bool.not_true, if_true, if_false, wi_eq, wi_eq', wi_ne, wi_row, wi_2, N0, N1, N2, N3, N4, N5, N6, N7, N8, N9, N10, N11, N12, N13, N14, N15, N16, N17, N18, N19, N20, N21, N22, N23, N24, N25, N26, N27, N28, N29, N30, N31, N32, N33, N34, N35, N36, N37, N38, N39, N40, N41, N42, N43, N45, N48, N57, N59, N88, N89, N97, N99, N120, N121, N122, N179, N200, N255, N300, N400, N880, N900, N999, N1019, N50000000, N100000000, N1000000000, N2147483647, N2147483648]
  | r + 1, u, n + 1, z, σ, hz, hu, hn, h, hl, hw => by
    have tz : z.toNat = u := by omega
    obtain ⟨σ', q1, q2, q3⟩ := r_rc5 (q := q) hd hp hq hS r (u + 1) n (z + 1) (wi σ 119 u (I (bn (rc d p S.testBit 0 u)))) (by omega) (by omega) (by omega)
      (RV_congr h (by rw [wi_row (by decide)]) (wi_row (by decide)) (wi_row (by decide)) (wi_row (by decide))) (by rw [wi_row (by decide)]; exact hl)
      (fun w h1 => by
        by_cases c : w = u
        · subst c; rw [wi_eq]
        · rw [wi_ne c]; exact hw w (by omega))
    refine ⟨σ', ?_, fun k hk => by rw [q2 k hk, wi_row hk], by rw [q3, wi_2]⟩
    rw [← q1, f_X7_mostOf_2]
    by_cases c : u = 0
    · rw [show rc d p S.testBit 0 u = true from decide_eq_true c]
      have e := bn_nar true
      rw [show bn true = 1 from rfl] at e
      simp (disch := omega) only [↓reduceIte, gd_t, bd_s, nm_W, nm_I, I_add, I_sub, I_mul, I_neg, I_le_t, I_le_f, I_lt_t, I_lt_f, I_eq_t, I_eq_f, I_inb', I_ix', Int.toNat_natCast, decide_true, decide_false, Bool.not_false, Bool.not_true, if_true, if_false, wi_eq, wi_eq', wi_ne, wi_row, wi_2, N0, N1, N2, N3, N4, N5, N6, N7, N8, N9, N10, N11, N12, N13, N14, N15, N16, N17, N18, N19, N20, N21, N22, N23, N24, N25, N26, N27, N28, N29, N30, N31, N32, N33, N34, N35, N36, N37, N38, N39, N40, N41, N42, N43, N45, N48, N57, N59, N88, N89, N97, N99, N120, N121, N122, N179, N200, N255, N300, N400, N880, N900, N999, N1019, N50000000, N100000000, N1000000000, N2147483647, N2147483648, f_X7_mostOf_22, tz, e, show bn true = 1 from rfl]
    · rw [show rc d p S.testBit 0 u = false from decide_eq_false c]
      have e := bn_nar false
      rw [show bn false = 0 from rfl] at e
      simp (disch := omega) only [↓reduceIte, gd_t, bd_s, nm_W, nm_I, I_add, I_sub, I_mul, I_neg, I_le_t, I_le_f, I_lt_t, I_lt_f, I_eq_t, I_eq_f, I_inb', I_ix', Int.toNat_natCast, decide_true, decide_false, Bool.not_false, Bool.not_true, if_true, if_false, wi_eq, wi_eq', wi_ne, wi_row, wi_2, N0, N1, N2, N3, N4, N5, N6, N7, N8, N9, N10, N11, N12, N13, N14, N15, N16, N17, N18, N19, N20, N21, N22, N23, N24, N25, N26, N27, N28, N29, N30, N31, N32, N33, N34, N35, N36, N37, N38, N39, N40, N41, N42, N43, N45, N48, N57, N59, N88, N89, N97, N99, N120, N121, N122, N179, N200, N255, N300, N400, N880, N900, N999, N1019, N50000000, N100000000, N1000000000, N2147483647, N2147483648, f_X7_mostOf_22, tz, e, show bn false = 0 from rfl]
theorem rMostOf {V q S : Nat} {p : Int} {d : MD} {σ : Wd} (hd : MDok d V) (hp : R p) (hq : q ≤ 120) (hS : S < 32) (h : RV σ V d) (hl : σ.1 102 12 = I p) :
    ∃ σ', f_X7_mostOf (I (S : Int)) (I (q : Int)) σ = some (I (bm (rc d p S.testBit V) q : Int), σ') ∧ (∀ k, k ≠ 119 → σ'.1 k = σ.1 k) ∧ σ'.2 = σ.2 :=
  r_rc5 hd hp hq hS 121 0 FU 0 σ rfl rfl (by decide) h hl (fun w hw => absurd hw (by omega))
end
section
/-! PURE: the reference's fewest, whole -/
theorem pow_sh : ∀ V, V ≤ 5 → (1 : Int32) <<< (I ((V : Nat) : Int) &&& 31) = I ((2 ^ V : Nat) : Int) := by decide
theorem pow_le : ∀ V, V ≤ 5 → 2 ^ V ≤ 32 := by decide
theorem full_bit : ∀ V, V ≤ 5 → ∀ v, v < V → (2 ^ V - 1).testBit v = true := by decide
theorem r_fe1 {V S : Nat} {x1 x3 x4 : Int32} {k42 : Int32 → Int32 → Int32 → Int32 → Wd → Option (Int32 × Wd)} {σ : Wd} (hV : V ≤ 5) (hS : S < 32) (h : σ.1 102 14 = I (V : Int)) :
    ∀ (r v n : Nat) (z c : Int), z = (v : Int) → c = cnt S.testBit v → v + r = V → r < n →
      f_X7_fewest_59 k42 n x1 x3 x4 (I (S : Int)) (I c) (I z) σ = if x4 ≤ I (cnt S.testBit V) then f_X7_fewest_108 k42 x1 x3 x4 (I (S : Int)) σ else bd (f_X7_mostOf (I (S : Int)) x1 σ) fun r1 σ2 => if r1 = x3 then (f_X7_fewest_108 k42 x1 x3 (I (cnt S.testBit V)) (I (S : Int)) σ2) else (f_X7_fewest_108 k42 x1 x3 x4 (I (S : Int)) σ2)
  | 0, v, n + 1, z, c, hz, hc, hv, _ => by
    have hv : v = V := by omega
    subst hv
    have b : I (v : Int) ≤ I z := by rw [hz]; exact (I_le (by unfold R; omega) (by unfold R; omega)).mpr (Int.le_refl _)
    rw [f_X7_fewest_59]
    dsimp only
    rw [h, if_pos b, ← hc]
  | r + 1, v, n + 1, z, c, hz, hc, hv, hn => by
    subst hz
    have b : ¬ I (V : Int) ≤ I (v : Int) := by rw [I_le (by unfold R; omega) (by unfold R; omega)]; omega
    have eb := bit_get S hS v (by omega)
    rw [f_X7_fewest_59]
    dsimp only
    rw [h, if_neg b, eb, I_add, show (1 : Int32) = I 1 from rfl, I_add]
    exact r_fe1 hV hS h r (v + 1) n _ _ (by omega) (by rw [hc]; rfl) (by omega) (by omega)
theorem r_fe2 {V q : Nat} {p c : Int} {d : MD} (hd : MDok d V) (hp : R p) (hq : q ≤ 120) (hc : fw d p V (bu (fw d p V) q) = some c) :
    ∀ (r S n : Nat) (z x4 : Int) (σ : Wd), z = (S : Int) → S + r = 2 ^ V → r < n → RV σ V d → σ.1 102 12 = I p → c ≤ x4 → x4 ≤ 5 → (∀ T, T < S → rc d p T.testBit V (bu (fw d p V) q) = true → x4 ≤ cnt T.testBit V) →
      ∃ σ', f_X7_fewest_42 n (I (q : Int)) (I (bu (fw d p V) q : Int)) (I x4) (I z) σ = bd (f_X7_good (I c) σ') (fun r1 σ2 => some (r1, σ2)) ∧ (∀ k, k ≠ 119 → σ'.1 k = σ.1 k) ∧ σ'.2 = σ.2
  | 0, S, n + 1, z, x4, σ, hz, hS, _, h, hl, h1, h2, hT => by
    have h5 := hd.1
    have p32 := pow_le V h5
    obtain ⟨T, t1, t2, t3⟩ := fw_rc V _ c h5 hc
    have := hT T (by omega) t2
    have e : x4 = c := by omega
    refine ⟨σ, ?_, fun _ _ => rfl, rfl⟩
    have b : I ((2 ^ V : Nat) : Int) ≤ I z := by rw [hz, I_le (by unfold R; omega) (by unfold R; omega)]; omega
    rw [f_X7_fewest_42]
    dsimp only
    rw [h.1, pow_sh V h5, if_pos b, e]
  | r + 1, S, n + 1, z, x4, σ, hz, hS, hn, h, hl, h1, h2, hT => by
    subst hz
    have h5 := hd.1
    have p32 := pow_le V h5
    have cb := cnt_bnd (s := S.testBit) V
    have ob := fw_OB V _ c hc
    have b : ¬ I ((2 ^ V : Nat) : Int) ≤ I (S : Int) := by rw [I_le (by unfold R; omega) (by unfold R; omega)]; omega
    have e1 := r_fe1 (x1 := I (q : Int)) (x3 := I (bu (fw d p V) q : Int)) (x4 := I x4) (k42 := f_X7_fewest_42 n) (S := S) h5 (by omega) h.1 V 0 FU 0 0 rfl rfl (by omega) (by show _ < 6000; omega)
    have st : f_X7_fewest_42 (n + 1) (I (q : Int)) (I (bu (fw d p V) q : Int)) (I x4) (I (S : Int)) σ = f_X7_fewest_59 (f_X7_fewest_42 n) FU (I (q : Int)) (I (bu (fw d p V) q : Int)) (I x4) (I (S : Int)) (I 0) (I 0) σ := by
      rw [f_X7_fewest_42]
      dsimp only
      rw [h.1, pow_sh V h5, if_neg b]
      rfl
    rw [st, e1]
    by_cases c1 : x4 ≤ cnt S.testBit V
    · rw [if_pos ((I_le (by unfold R; omega) (by unfold R; omega)).mpr c1)]
      unfold f_X7_fewest_108
      rw [show (1 : Int32) = I 1 from rfl, I_add]
      exact r_fe2 hd hp hq hc r (S + 1) n _ x4 σ (by omega) (by omega) (by omega) h hl h1 h2 (fun T t1 t2 => by
        by_cases c2 : T = S
        · subst c2; exact c1
        · exact hT T (by omega) t2)
    · rw [if_neg (by rw [I_le (by unfold R; omega) (by unfold R; omega)]; exact c1)]
      obtain ⟨τ, t1, t2, t3⟩ := rMostOf (q := q) (S := S) hd hp hq (by omega) h hl
      have h' : RV τ V d := RV_congr h (by rw [t2 102 (by decide)]) (t2 103 (by decide)) (t2 104 (by decide)) (t2 112 (by decide))
      have hl' : τ.1 102 12 = I p := by rw [t2 102 (by decide)]; exact hl
      rw [t1, bd_s]
      have ml := bm_le (f := rc d p S.testBit V) q
      have mf := bu_le (f := fw d p V) q
      have key : bm (rc d p S.testBit V) q = bu (fw d p V) q ↔ rc d p S.testBit V (bu (fw d p V) q) = true := by
        constructor
        · intro e
          have := bm_at (f := rc d p S.testBit V) (rc_0 V) q
          rw [e] at this
          exact this
        · intro e
          have g1 := bm_ge e q mf
          have g2 := bm_at (f := rc d p S.testBit V) (rc_0 V) q
          obtain ⟨x, hx, -⟩ := rc_fw V _ g2
          have g3 := bu_ge (f := fw d p V) (w := bm (rc d p S.testBit V) q) (by rw [hx]; exact fun h => by cases h) q ml
          omega
      by_cases c2 : bm (rc d p S.testBit V) q = bu (fw d p V) q
      · rw [if_pos (by rw [c2])]
        unfold f_X7_fewest_108
        rw [show (1 : Int32) = I 1 from rfl, I_add]
        obtain ⟨x, hx, hx2⟩ := rc_fw V _ (key.mp c2)
        rw [hc] at hx
        cases hx
        obtain ⟨σ', q1, q2, q3⟩ := r_fe2 hd hp hq hc r (S + 1) n ((S : Int) + 1) (cnt S.testBit V) τ (by omega) (by omega) (by omega) h' hl' hx2 (by omega) (fun T g1 g2 => by
          by_cases c3 : T = S
          · subst c3; exact Int.le_refl _
          · have := hT T (by omega) g2
            omega)
        exact ⟨σ', q1, fun k hk => by rw [q2 k hk, t2 k hk], by rw [q3, t3]⟩
      · rw [if_neg (fun q => c2 (by have := (I_eq (by unfold R; omega) (by unfold R; omega)).mp q; omega))]
        unfold f_X7_fewest_108
        rw [show (1 : Int32) = I 1 from rfl, I_add]
        obtain ⟨σ', q1, q2, q3⟩ := r_fe2 hd hp hq hc r (S + 1) n ((S : Int) + 1) x4 τ (by omega) (by omega) (by omega) h' hl' h1 h2 (fun T g1 g2 => by
          by_cases c3 : T = S
          · subst c3; exact absurd (key.mpr g2) c2
          · exact hT T (by omega) g2)
        exact ⟨σ', q1, fun k hk => by rw [q2 k hk, t2 k hk], by rw [q3, t3]⟩
/-- behind the refusals -/
def r_few (a1 : Int32) (σ3 : Wd) : Option (Int32 × Wd) := bd (f_X7_mostOf (((1 : Int32) <<< ((σ3.1 102 14) &&& 31)) - (1 : Int32)) a1 σ3) fun r4 σ5 => (f_X7_fewest_42 FU a1 r4 (5 : Int32) (0 : Int32) σ5)
theorem rFewest {V q : Nat} {p : Int} {d : MD} {σ : Wd} (hd : MDok d V) (hp : R p) (hq : q ≤ 120) (h : RV σ V d) (hl : σ.1 102 12 = I p) :
    ∃ σ', r_few (I (q : Int)) σ = bd (f_X7_good (I (enc 1000000000 (fw d p V (bu (fw d p V) q)))) σ') (fun r1 σ2 => some (r1, σ2)) ∧ (∀ k, k ≠ 119 → σ'.1 k = σ.1 k) ∧ σ'.2 = σ.2 := by
  have h5 := hd.1
  have p32 := pow_le V h5
  have p1 : 0 < 2 ^ V := Nat.pow_pos (by decide)
  obtain ⟨τ, t1, t2, t3⟩ := rMostOf (q := q) (S := 2 ^ V - 1) hd hp hq (by omega) h hl
  have ef : bm (rc d p (2 ^ V - 1).testBit V) q = bu (fw d p V) q := by
    have : rc d p (2 ^ V - 1).testBit V = rc d p (fun _ => true) V := funext (fun u => rc_congr V u (fun w hw => full_bit V h5 w hw))
    rw [this, bm_full]
  rw [ef] at t1
  have hn : fw d p V (bu (fw d p V) q) ≠ none := bu_some (by rw [fw_0]; exact fun h => by cases h) q
  obtain ⟨c, hc⟩ := Option.ne_none_iff_exists'.mp hn
  have ob := fw_OB V _ c hc
  obtain ⟨σ', q1, q2, q3⟩ := r_fe2 hd hp hq hc (2 ^ V) 0 FU 0 5 τ rfl (by omega) (by show _ < 6000; omega) (RV_congr h (by rw [t2 102 (by decide)]) (t2 103 (by decide)) (t2 104 (by decide)) (t2 112 (by decide))) (by rw [t2 102 (by decide)]; exact hl) (by omega) (by omega) (fun T g => absurd g (by omega))
  refine ⟨σ', ?_, fun k hk => by rw [q2 k hk, t2 k hk], by rw [q3, t3]⟩
  unfold r_few
  rw [h.1, pow_sh V h5, show (1 : Int32) = I 1 from rfl, I_sub, show (((2 ^ V : Nat) : Int) - 1) = ((2 ^ V - 1 : Nat) : Int) from by omega, t1, bd_s, hc]
  exact q1
end
section
/-! PURE: the plan -/
def PB (pl : Nat → Int) (V : Nat) : Prop := ∀ v, v < V → 0 ≤ pl v ∧ pl v ≤ 120
def pu (pl : Nat → Int) : Nat → Nat → Int
  | 0, _ => 0
  | r + 1, v => pl v + pu pl r (v + 1)
def pc (d : MD) (pl : Nat → Int) : Nat → Nat → Int
  | 0, _ => 0
  | r + 1, v => cst d v (pl v) + pc d pl r (v + 1)
def ps (d : MD) (p w : Int) (pl : Nat → Int) (V : Nat) : Nat → Nat → Bool
  | 0, _ => decide (pu pl V 0 ≤ w)
  | r + 1, v => if pl v ≤ dep d p v then ps d p w pl V r (v + 1) else false
theorem pu_bnd {pl : Nat → Int} {V : Nat} (h : PB pl V) : ∀ (r v : Nat), v + r ≤ V → 0 ≤ pu pl r v ∧ pu pl r v ≤ 120 * (r : Int)
  | 0, _, _ => ⟨Int.le_refl _, Int.le_refl _⟩
  | r + 1, v, hv => by
    have := pu_bnd h r (v + 1) (by omega)
    have := h v (by omega)
    unfold pu
    omega
theorem c_pu {m : Nat} {σ : Wd} {V : Nat} {pl : Nat → Int} (h3 : σ.1 m 3 = I (V : Int)) (hV : V ≤ 5) (hp : ∀ v, v < V → σ.1 (m + 7) v = I (pl v)) :
    ∀ (r v n : Nat) (acc z : Int), z = (v : Int) → r < n → v + r = V → f_X3_planUnits_4 m n (I acc) (I z) σ = some (I (acc + pu pl r v), σ)
  | 0, v, n + 1, acc, z, hz, _, hv => by
    rw [f_X3_planUnits_4]
    simp (disch := omega) only [↓reduceIte, gd_t, bd_s, nm_W, nm_I, I_add, I_sub, I_mul, I_neg, I_le_t, I_le_f, I_lt_t, I_lt_f, I_eq_t, I_eq_f, I_inb', I_ix', Int.toNat_natCast, decide_true, decide_false, Bool.not_false, Bool.not_true, if_true, if_false, wi_eq, wi_eq', wi_ne, wi_row, wi_2, N0, N1, N2, N3, N4, N5, N6, N7, N8, N9, N10, N11, N12, N13, N14, N15, N16, N17, N18, N19, N20, N21, N22, N23, N24, N25, N26, N27, N28, N29, N30, N31, N32, N33, N34, N35, N36, N37, N38, N39, N40, N41, N42, N43, N45, N48, N57, N59, N88, N89, N97, N99, N120, N121, N122, N179, N200, N255, N300, N400, N880, N900, N999, N1019, N50000000, N100000000, N1000000000, N2147483647, N2147483648, h3, pu]
    rw [Int.add_zero]
  | r + 1, v, n + 1, acc, z, hz, hn, hv => by
    subst hz
    rw [f_X3_planUnits_4, pu]
    simp (disch := omega) only [↓reduceIte, gd_t, bd_s, nm_W, nm_I, I_add, I_sub, I_mul, I_neg, I_le_t, I_le_f, I_lt_t, I_lt_f, I_eq_t, I_eq_f, I_inb', I_ix', Int.toNat_natCast, decide_true, decide_false, Bool.not_false, Bool.not_true, if_true, if_false, wi_eq, wi_eq', wi_ne, wi_row, wi_2, N0, N1, N2, N3, N4, N5, N6, N7, N8, N9, N10, N11, N12, N13, N14, N15, N16, N17, N18, N19, N20, N21, N22, N23, N24, N25, N26, N27, N28, N29, N30, N31, N32, N33, N34, N35, N36, N37, N38, N39, N40, N41, N42, N43, N45, N48, N57, N59, N88, N89, N97, N99, N120, N121, N122, N179, N200, N255, N300, N400, N880, N900, N999, N1019, N50000000, N100000000, N1000000000, N2147483647, N2147483648, h3, hp v (by omega)]
    rw [c_pu h3 hV hp r (v + 1) n _ _ (by omega) (by omega) (by omega), Int.add_assoc]
theorem cPU {m : Nat} {σ : Wd} {V : Nat} {pl : Nat → Int} (h3 : σ.1 m 3 = I (V : Int)) (hV : V ≤ 5) (hp : ∀ v, v < V → σ.1 (m + 7) v = I (pl v)) : f_X3_planUnits m σ = some (I (pu pl V 0), σ) := by
  have e := c_pu h3 hV hp V 0 FU 0 0 rfl (by show _ < 6000; omega) (by omega)
  rw [Int.zero_add] at e
  exact e
theorem r_pu {σ : Wd} {V : Nat} {pl : Nat → Int} (h3 : σ.1 102 14 = I (V : Int)) (hV : V ≤ 5) (hp : ∀ v, v < V → σ.1 112 (43 + v) = I (pl v)) :
    ∀ (r v n : Nat) (acc z : Int), z = (v : Int) → r < n → v + r = V → f_X7_planUnits_4 n (I acc) (I z) σ = some (I (acc + pu pl r v), σ)
  | 0, v, n + 1, acc, z, hz, _, hv => by
    rw [f_X7_planUnits_4]
    simp (disch := omega) only [↓reduceIte, gd_t, bd_s, nm_W, nm_I, I_add, I_sub, I_mul, I_neg, I_le_t, I_le_f, I_lt_t, I_lt_f, I_eq_t, I_eq_f, I_inb', I_ix', Int.toNat_natCast, decide_true, decide_false, Bool.not_false, Bool.not_true, if_true, if_false, wi_eq, wi_eq', wi_ne, wi_row, wi_2, N0, N1, N2, N3, N4, N5, N6, N7, N8, N9, N10, N11, N12, N13, N14, N15, N16, N17, N18, N19, N20, N21, N22, N23, N24, N25, N26, N27, N28, N29, N30, N31, N32, N33, N34, N35, N36, N37, N38, N39, N40, N41, N42, N43, N45, N48, N57, N59, N88, N89, N97, N99, N120, N121, N122, N179, N200, N255, N300, N400, N880, N900, N999, N1019, N50000000, N100000000, N1000000000, N2147483647, N2147483648, h3, pu]
    rw [Int.add_zero]
  | r + 1, v, n + 1, acc, z, hz, hn, hv => by
    subst hz
    have t1 : ((43 : Int) + (v : Int)).toNat = 43 + v := by omega
    rw [f_X7_planUnits_4, pu]
    simp (disch := omega) only [↓reduceIte, gd_t, bd_s, nm_W, nm_I, I_add, I_sub, I_mul, I_neg, I_le_t, I_le_f, I_lt_t, I_lt_f, I_eq_t, I_eq_f, I_inb', I_ix', Int.toNat_natCast, decide_true, decide_false, Bool.not_false, Bool.not_true, if_true, if_false, wi_eq, wi_eq', wi_ne, wi_row, wi_2, N0, N1, N2, N3, N4, N5, N6, N7, N8, N9, N10, N11, N12, N13, N14, N15, N16, N17, N18, N19, N20, N21, N22, N23, N24, N25, N26, N27, N28, N29, N30, N31, N32, N33, N34, N35, N36, N37, N38, N39, N40, N41, N42, N43, N45, N48, N57, N59, N88, N89, N97, N99, N120, N121, N122, N179, N200, N255, N300, N400, N880, N900, N999, N1019, N50000000, N100000000, N1000000000, N2147483647, N2147483648, h3, t1, hp v (by omega)]
    rw [r_pu h3 hV hp r (v + 1) n _ _ (by omega) (by omega) (by omega), Int.add_assoc]
theorem rPU {σ : Wd} {V : Nat} {pl : Nat → Int} (h3 : σ.1 102 14 = I (V : Int)) (hV : V ≤ 5) (hp : ∀ v, v < V → σ.1 112 (43 + v) = I (pl v)) : f_X7_planUnits σ = some (I (pu pl V 0), σ) := by
  have e := r_pu h3 hV hp V 0 FU 0 0 rfl (by show _ < 6000; omega) (by omega)
  rw [Int.zero_add] at e
  exact e
theorem c_pc {m : Nat} {σ : Wd} {V : Nat} {d : MD} {pl : Nat → Int} (h : CV m σ V d) (hd : MDok d V) (hb : PB pl V) (hp : ∀ v, v < V → σ.1 (m + 7) v = I (pl v)) :
    ∀ (r v n : Nat) (acc z : Int), z = (v : Int) → r < n → v + r = V → f_X3_planCost_4 m n (I acc) (I z) σ = some (I (acc + pc d pl r v), σ)
  | 0, v, n + 1, acc, z, hz, _, hv => by
    have h5 := hd.1
    rw [f_X3_planCost_4]
    simp (disch := omega) only [↓reduceIte, gd_t, bd_s, nm_W, nm_I, I_add, I_sub, I_mul, I_neg, I_le_t, I_le_f, I_lt_t, I_lt_f, I_eq_t, I_eq_f, I_inb', I_ix', Int.toNat_natCast, decide_true, decide_false, Bool.not_false, Bool.not_true, if_true, if_false, wi_eq, wi_eq', wi_ne, wi_row, wi_2, N0, N1, N2, N3, N4, N5, N6, N7, N8, N9, N10, N11, N12, N13, N14, N15, N16, N17, N18, N19, N20, N21, N22, N23, N24, N25, N26, N27, N28, N29, N30, N31, N32, N33, N34, N35, N36, N37, N38, N39, N40, N41, N42, N43, N45, N48, N57, N59, N88, N89, N97, N99, N120, N121, N122, N179, N200, N255, N300, N400, N880, N900, N999, N1019, N50000000, N100000000, N1000000000, N2147483647, N2147483648, h.1, pc]
    rw [Int.add_zero]
  | r + 1, v, n + 1, acc, z, hz, hn, hv => by
    subst hz
    have h5 := hd.1
    have hvV : v < V := by omega
    have b := hb v hvV
    rw [f_X3_planCost_4, pc]
    simp (disch := omega) only [↓reduceIte, gd_t, bd_s, nm_W, nm_I, I_add, I_sub, I_mul, I_neg, I_le_t, I_le_f, I_lt_t, I_lt_f, I_eq_t, I_eq_f, I_inb', I_ix', Int.toNat_natCast, decide_true, decide_false, Bool.not_false, Bool.not_true, if_true, if_false, wi_eq, wi_eq', wi_ne, wi_row, wi_2, N0, N1, N2, N3, N4, N5, N6, N7, N8, N9, N10, N11, N12, N13, N14, N15, N16, N17, N18, N19, N20, N21, N22, N23, N24, N25, N26, N27, N28, N29, N30, N31, N32, N33, N34, N35, N36, N37, N38, N39, N40, N41, N42, N43, N45, N48, N57, N59, N88, N89, N97, N99, N120, N121, N122, N179, N200, N255, N300, N400, N880, N900, N999, N1019, N50000000, N100000000, N1000000000, N2147483647, N2147483648, h.1, hp v hvV, cCost h hd hvV (n := pl v) (by omega) (by omega)]
    rw [c_pc h hd hb hp r (v + 1) n _ _ (by omega) (by omega) (by omega), Int.add_assoc]
theorem cPC {m : Nat} {σ : Wd} {V : Nat} {d : MD} {pl : Nat → Int} (h : CV m σ V d) (hd : MDok d V) (hb : PB pl V) (hp : ∀ v, v < V → σ.1 (m + 7) v = I (pl v)) : f_X3_planCost m σ = some (I (pc d pl V 0), σ) := by
  have h5 := hd.1
  have e := c_pc h hd hb hp V 0 FU 0 0 rfl (by show _ < 6000; omega) (by omega)
  rw [Int.zero_add] at e
  exact e
theorem r_pc {σ : Wd} {V : Nat} {d : MD} {pl : Nat → Int} (h : RV σ V d) (hd : MDok d V) (hb : PB pl V) (hp : ∀ v, v < V → σ.1 112 (43 + v) = I (pl v)) :
    ∀ (r v n : Nat) (acc z : Int), z = (v : Int) → r < n → v + r = V → f_X7_planCost_4 n (I acc) (I z) σ = some (I (acc + pc d pl r v), σ)
  | 0, v, n + 1, acc, z, hz, _, hv => by
    have h5 := hd.1
    rw [f_X7_planCost_4]
    simp (disch := omega) only [↓reduceIte, gd_t, bd_s, nm_W, nm_I, I_add, I_sub, I_mul, I_neg, I_le_t, I_le_f, I_lt_t, I_lt_f, I_eq_t, I_eq_f, I_inb', I_ix', Int.toNat_natCast, decide_true, decide_false, Bool.not_false, Bool.not_true, if_true, if_false, wi_eq, wi_eq', wi_ne, wi_row, wi_2, N0, N1, N2, N3, N4, N5, N6, N7, N8, N9, N10, N11, N12, N13, N14, N15, N16, N17, N18, N19, N20, N21, N22, N23, N24, N25, N26, N27, N28, N29, N30, N31, N32, N33, N34, N35, N36, N37, N38, N39, N40, N41, N42, N43, N45, N48, N57, N59, N88, N89, N97, N99, N120, N121, N122, N179, N200, N255, N300, N400, N880, N900, N999, N1019, N50000000, N100000000, N1000000000, N2147483647, N2147483648, h.1, pc]
    rw [Int.add_zero]
  | r + 1, v, n + 1, acc, z, hz, hn, hv => by
    subst hz
    have h5 := hd.1
    have hvV : v < V := by omega
    have b := hb v hvV
    have t1 : ((43 : Int) + (v : Int)).toNat = 43 + v := by omega
    rw [f_X7_planCost_4, pc]
    simp (disch := omega) only [↓reduceIte, gd_t, bd_s, nm_W, nm_I, I_add, I_sub, I_mul, I_neg, I_le_t, I_le_f, I_lt_t, I_lt_f, I_eq_t, I_eq_f, I_inb', I_ix', Int.toNat_natCast, decide_true, decide_false, Bool.not_false, Bool.not_true, if_true, if_false, wi_eq, wi_eq', wi_ne, wi_row, wi_2, N0, N1, N2, N3, N4, N5, N6, N7, N8, N9, N10, N11, N12, N13, N14, N15, N16, N17, N18, N19, N20, N21, N22, N23, N24, N25, N26, N27, N28, N29, N30, N31, N32, N33, N34, N35, N36, N37, N38, N39, N40, N41, N42, N43, N45, N48, N57, N59, N88, N89, N97, N99, N120, N121, N122, N179, N200, N255, N300, N400, N880, N900, N999, N1019, N50000000, N100000000, N1000000000, N2147483647, N2147483648, h.1, t1, hp v hvV, rCost h hd hvV (n := pl v) (by omega) (by omega)]
    rw [r_pc h hd hb hp r (v + 1) n _ _ (by omega) (by omega) (by omega), Int.add_assoc]
theorem rPC {σ : Wd} {V : Nat} {d : MD} {pl : Nat → Int} (h : RV σ V d) (hd : MDok d V) (hb : PB pl V) (hp : ∀ v, v < V → σ.1 112 (43 + v) = I (pl v)) : f_X7_planCost σ = some (I (pc d pl V 0), σ) := by
  have h5 := hd.1
  have e := r_pc h hd hb hp V 0 FU 0 0 rfl (by show _ < 6000; omega) (by omega)
  rw [Int.zero_add] at e
  exact e
theorem bn_t : bn true = 1 := rfl
theorem bn_f : bn false = 0 := rfl
theorem isb_b (b : Bool) : isb (I (bn b)) = true := by cases b <;> rfl
theorem isb_1 : isb (I 1) = true := rfl
theorem isb_0 : isb (I 0) = true := rfl
theorem c_ps {m : Nat} {σ : Wd} {V : Nat} {d : MD} {p w : Int} {pl : Nat → Int} (h : CV m σ V d) (hd : MDok d V) (hp : R p) (hl : σ.1 m 1 = I p) (hw : σ.1 m 0 = I w) (hw2 : R w) (hb : PB pl V) (hpl : ∀ v, v < V → σ.1 (m + 7) v = I (pl v)) :
    ∀ (r v n : Nat) (z : Int), z = (v : Int) → r < n → v + r = V → f_X3_planStands_2 m n (I z) σ = some (I (bn (ps d p w pl V r v)), σ)
  | 0, v, n + 1, z, hz, _, hv => by
    have h5 := hd.1
    have pb := pu_bnd hb V 0 (by omega)
    have e := cPU h.1 h5 hpl
    unfold R at hw2
    rw [f_X3_planStands_2, ps]
    by_cases c : pu pl V 0 ≤ w
    · rw [decide_eq_true c]
      simp (disch := omega) only [↓reduceIte, gd_t, bd_s, nm_W, nm_I, I_add, I_sub, I_mul, I_neg, I_le_t, I_le_f, I_lt_t, I_lt_f, I_eq_t, I_eq_f, I_inb', I_ix', Int.toNat_natCast, decide_true, decide_false, Bool.not_false, Bool.not_true, if_true, if_false, wi_eq, wi_eq', wi_ne, wi_row, wi_2, N0, N1, N2, N3, N4, N5, N6, N7, N8, N9, N10, N11, N12, N13, N14, N15, N16, N17, N18, N19, N20, N21, N22, N23, N24, N25, N26, N27, N28, N29, N30, N31, N32, N33, N34, N35, N36, N37, N38, N39, N40, N41, N42, N43, N45, N48, N57, N59, N88, N89, N97, N99, N120, N121, N122, N179, N200, N255, N300, N400, N880, N900, N999, N1019, N50000000, N100000000, N1000000000, N2147483647, N2147483648, h.1, e, hw, f_X3_planStands_48, bn_t, isb_1]
    · rw [decide_eq_false c]
      simp (disch := omega) only [↓reduceIte, gd_t, bd_s, nm_W, nm_I, I_add, I_sub, I_mul, I_neg, I_le_t, I_le_f, I_lt_t, I_lt_f, I_eq_t, I_eq_f, I_inb', I_ix', Int.toNat_natCast, decide_true, decide_false, Bool.not_false, Bool.not_true, if_true, if_false, wi_eq, wi_eq', wi_ne, wi_row, wi_2, N0, N1, N2, N3, N4, N5, N6, N7, N8, N9, N10, N11, N12, N13, N14, N15, N16, N17, N18, N19, N20, N21, N22, N23, N24, N25, N26, N27, N28, N29, N30, N31, N32, N33, N34, N35, N36, N37, N38, N39, N40, N41, N42, N43, N45, N48, N57, N59, N88, N89, N97, N99, N120, N121, N122, N179, N200, N255, N300, N400, N880, N900, N999, N1019, N50000000, N100000000, N1000000000, N2147483647, N2147483648, h.1, e, hw, f_X3_planStands_48, bn_f, isb_0]
  | r + 1, v, n + 1, z, hz, hn, hv => by
    subst hz
    have h5 := hd.1
    have hvV : v < V := by omega
    have b := hb v hvV
    have db := dep_bnd (p := p) hd hvV
    rw [ps]
    by_cases c : pl v ≤ dep d p v
    · rw [if_pos c, f_X3_planStands_2]
      simp (disch := omega) only [↓reduceIte, gd_t, bd_s, nm_W, nm_I, I_add, I_sub, I_mul, I_neg, I_le_t, I_le_f, I_lt_t, I_lt_f, I_eq_t, I_eq_f, I_inb', I_ix', Int.toNat_natCast, decide_true, decide_false, Bool.not_false, Bool.not_true, if_true, if_false, wi_eq, wi_eq', wi_ne, wi_row, wi_2, N0, N1, N2, N3, N4, N5, N6, N7, N8, N9, N10, N11, N12, N13, N14, N15, N16, N17, N18, N19, N20, N21, N22, N23, N24, N25, N26, N27, N28, N29, N30, N31, N32, N33, N34, N35, N36, N37, N38, N39, N40, N41, N42, N43, N45, N48, N57, N59, N88, N89, N97, N99, N120, N121, N122, N179, N200, N255, N300, N400, N880, N900, N999, N1019, N50000000, N100000000, N1000000000, N2147483647, N2147483648, h.1, hpl v hvV, cDepth h hd hvV hp hl]
      exact c_ps h hd hp hl hw hw2 hb hpl r (v + 1) n _ (by omega) (by omega) (by omega)
    · rw [if_neg c, f_X3_planStands_2]
      simp (disch := omega) only [↓reduceIte, gd_t, bd_s, nm_W, nm_I, I_add, I_sub, I_mul, I_neg, I_le_t, I_le_f, I_lt_t, I_lt_f, I_eq_t, I_eq_f, I_inb', I_ix', Int.toNat_natCast, decide_true, decide_false, Bool.not_false, Bool.not_true, if_true, if_false, wi_eq, wi_eq', wi_ne, wi_row, wi_2, N0, N1, N2, N3, N4, N5, N6, N7, N8, N9, N10, N11, N12, N13, N14, N15, N16, N17, N18, N19, N20, N21, N22, N23, N24, N25, N26, N27, N28, N29, N30, N31, N32, N33, N34, N35, N36, N37, N38, N39, N40, N41, N42, N43, N45, N48, N57, N59, N88, N89, N97, N99, N120, N121, N122, N179, N200, N255, N300, N400, N880, N900, N999, N1019, N50000000, N100000000, N1000000000, N2147483647, N2147483648, h.1, hpl v hvV, cDepth h hd hvV hp hl, bn_f, isb_0]
theorem cPS {m : Nat} {σ : Wd} {V : Nat} {d : MD} {p w : Int} {pl : Nat → Int} (h : CV m σ V d) (hd : MDok d V) (hp : R p) (hl : σ.1 m 1 = I p) (hw : σ.1 m 0 = I w) (hw2 : R w) (hb : PB pl V) (hpl : ∀ v, v < V → σ.1 (m + 7) v = I (pl v)) : f_X3_planStands m σ = some (I (bn (ps d p w pl V V 0)), σ) := by
  have h5 := hd.1
  exact c_ps h hd hp hl hw hw2 hb hpl V 0 FU 0 rfl (by show _ < 6000; omega) (by omega)
theorem r_ps {σ : Wd} {V : Nat} {d : MD} {p w : Int} {pl : Nat → Int} (h : RV σ V d) (hd : MDok d V) (hp : R p) (hl : σ.1 102 12 = I p) (hw : σ.1 112 35 = I w) (hw2 : R w) (hb : PB pl V) (hpl : ∀ v, v < V → σ.1 112 (43 + v) = I (pl v)) :
    ∀ (r v n : Nat) (z : Int), z = (v : Int) → r < n → v + r = V → f_X7_canHavePlan_2 n (I z) σ = some (I (bn (ps d p w pl V r v)), σ)
  | 0, v, n + 1, z, hz, _, hv => by
    have h5 := hd.1
    have pb := pu_bnd hb V 0 (by omega)
    have e := rPU h.1 h5 hpl
    have t1 : Int.toNat 35 = 35 := rfl
    unfold R at hw2
    rw [f_X7_canHavePlan_2, ps]
    by_cases c : pu pl V 0 ≤ w
    · rw [decide_eq_true c]
      simp (disch := omega) only [↓reduceIte, gd_t, bd_s, nm_W, nm_I, I_add, I_sub, I_mul, I_neg, I_le_t, I_le_f, I_lt_t, I_lt_f, I_eq_t, I_eq_f, I_inb', I_ix', Int.toNat_natCast, decide_true, decide_false, Bool.not_false, Bool.not_true, if_true, if_false, wi_eq, wi_eq', wi_ne, wi_row, wi_2, N0, N1, N2, N3, N4, N5, N6, N7, N8, N9, N10, N11, N12, N13, N14, N15, N16, N17, N18, N19, N20, N21, N22, N23, N24, N25, N26, N27, N28, N29, N30, N31, N32, N33, N34, N35, N36, N37, N38, N39, N40, N41, N42, N43, N45, N48, N57, N59, N88, N89, N97, N99, N120, N121, N122, N179, N200, N255, N300, N400, N880, N900, N999, N1019, N50000000, N100000000, N1000000000, N2147483647, N2147483648, h.1, e, hw, t1, f_X7_canHavePlan_54, bn_t, isb_1]
    · rw [decide_eq_false c]
      simp (disch := omega) only [↓reduceIte, gd_t, bd_s, nm_W, nm_I, I_add, I_sub, I_mul, I_neg, I_le_t, I_le_f, I_lt_t, I_lt_f, I_eq_t, I_eq_f, I_inb', I_ix', Int.toNat_natCast, decide_true, decide_false, Bool.not_false, Bool.not_true, if_true, if_false, wi_eq, wi_eq', wi_ne, wi_row, wi_2, N0, N1, N2, N3, N4, N5, N6, N7, N8, N9, N10, N11, N12, N13, N14, N15, N16, N17, N18, N19, N20, N21, N22, N23, N24, N25, N26, N27, N28, N29, N30, N31, N32, N33, N34, N35, N36, N37, N38, N39, N40, N41, N42, N43, N45, N48, N57, N59, N88, N89, N97, N99, N120, N121, N122, N179, N200, N255, N300, N400, N880, N900, N999, N1019, N50000000, N100000000, N1000000000, N2147483647, N2147483648, h.1, e, hw, t1, f_X7_canHavePlan_54, bn_f, isb_0]
  | r + 1, v, n + 1, z, hz, hn, hv => by
    subst hz
    have h5 := hd.1
    have hvV : v < V := by omega
    have b := hb v hvV
    have db := dep_bnd (p := p) hd hvV
    have t1 : ((43 : Int) + (v : Int)).toNat = 43 + v := by omega
    rw [ps]
    by_cases c : pl v ≤ dep d p v
    · rw [if_pos c, f_X7_canHavePlan_2]
      simp (disch := omega) only [↓reduceIte, gd_t, bd_s, nm_W, nm_I, I_add, I_sub, I_mul, I_neg, I_le_t, I_le_f, I_lt_t, I_lt_f, I_eq_t, I_eq_f, I_inb', I_ix', Int.toNat_natCast, decide_true, decide_false, Bool.not_false, Bool.not_true, if_true, if_false, wi_eq, wi_eq', wi_ne, wi_row, wi_2, N0, N1, N2, N3, N4, N5, N6, N7, N8, N9, N10, N11, N12, N13, N14, N15, N16, N17, N18, N19, N20, N21, N22, N23, N24, N25, N26, N27, N28, N29, N30, N31, N32, N33, N34, N35, N36, N37, N38, N39, N40, N41, N42, N43, N45, N48, N57, N59, N88, N89, N97, N99, N120, N121, N122, N179, N200, N255, N300, N400, N880, N900, N999, N1019, N50000000, N100000000, N1000000000, N2147483647, N2147483648, h.1, t1, hpl v hvV, rDepth h hd hvV hp hl]
      exact r_ps h hd hp hl hw hw2 hb hpl r (v + 1) n _ (by omega) (by omega) (by omega)
    · rw [if_neg c, f_X7_canHavePlan_2]
      simp (disch := omega) only [↓reduceIte, gd_t, bd_s, nm_W, nm_I, I_add, I_sub, I_mul, I_neg, I_le_t, I_le_f, I_lt_t, I_lt_f, I_eq_t, I_eq_f, I_inb', I_ix', Int.toNat_natCast, decide_true, decide_false, Bool.not_false, Bool.not_true, if_true, if_false, wi_eq, wi_eq', wi_ne, wi_row, wi_2, N0, N1, N2, N3, N4, N5, N6, N7, N8, N9, N10, N11, N12, N13, N14, N15, N16, N17, N18, N19, N20, N21, N22, N23, N24, N25, N26, N27, N28, N29, N30, N31, N32, N33, N34, N35, N36, N37, N38, N39, N40, N41, N42, N43, N45, N48, N57, N59, N88, N89, N97, N99, N120, N121, N122, N179, N200, N255, N300, N400, N880, N900, N999, N1019, N50000000, N100000000, N1000000000, N2147483647, N2147483648, h.1, t1, hpl v hvV, rDepth h hd hvV hp hl, bn_f, isb_0]
theorem rPS {σ : Wd} {V : Nat} {d : MD} {p w : Int} {pl : Nat → Int} (h : RV σ V d) (hd : MDok d V) (hp : R p) (hl : σ.1 102 12 = I p) (hw : σ.1 112 35 = I w) (hw2 : R w) (hb : PB pl V) (hpl : ∀ v, v < V → σ.1 112 (43 + v) = I (pl v)) : f_X7_canHavePlan σ = some (I (bn (ps d p w pl V V 0)), σ) := by
  have h5 := hd.1
  exact r_ps h hd hp hl hw hw2 hb hpl V 0 FU 0 rfl (by show _ < 6000; omega) (by omega)
/-! a common multiple of two lots -/
def lcr (a b : Int) : Nat → Nat → Int
  | 0, t => a * (t : Int)
  | r + 1, t => if (a * (t : Int)) % b = 0 then a * (t : Int) else lcr a b r (t + 1)
theorem mul_b {a : Int} {t : Nat} (h1 : 1 ≤ a) (h2 : a ≤ 20) (h3 : t ≤ 20) : 0 ≤ a * (t : Int) ∧ a * (t : Int) ≤ 400 := by
  have h := Int.mul_le_mul h2 (show (t : Int) ≤ 20 by omega) (by omega) (by omega)
  have g := Int.mul_nonneg (show 0 ≤ a by omega) (show 0 ≤ (t : Int) by omega)
  omega
theorem lcr_b {a b : Int} (h1 : 1 ≤ a) (h2 : a ≤ 20) : ∀ (r t : Nat), t + r ≤ 20 → 0 ≤ lcr a b r t ∧ lcr a b r t ≤ 400
  | 0, t, h => mul_b h1 h2 (by omega)
  | r + 1, t, h => by
    unfold lcr
    split
    · exact mul_b h1 h2 (by omega)
    · exact lcr_b h1 h2 r (t + 1) (by omega)
theorem c_lcm {a b : Int} {σ : Wd} (h1 : 1 ≤ a) (h2 : a ≤ 20) (b1 : 1 ≤ b) (b2 : b ≤ 20) : ∀ (r t n : Nat) (z : Int), z = (t : Int) → r < n → (t : Int) + (r : Int) = b → 1 ≤ t → f_X3_leastCommonMultiple_8 n (I a) (I b) (I z) σ = some (I (lcr a b r t), σ)
  | 0, t, n + 1, z, hz, _, ht, _ => by
    rw [f_X3_leastCommonMultiple_8]
    simp (disch := omega) only [↓reduceIte, gd_t, bd_s, nm_W, nm_I, I_add, I_sub, I_mul, I_neg, I_le_t, I_le_f, I_lt_t, I_lt_f, I_eq_t, I_eq_f, I_inb', I_ix', Int.toNat_natCast, decide_true, decide_false, Bool.not_false, Bool.not_true, if_true, if_false, wi_eq, wi_eq', wi_ne, wi_row, wi_2, N0, N1, N2, N3, N4, N5, N6, N7, N8, N9, N10, N11, N12, N13, N14, N15, N16, N17, N18, N19, N20, N21, N22, N23, N24, N25, N26, N27, N28, N29, N30, N31, N32, N33, N34, N35, N36, N37, N38, N39, N40, N41, N42, N43, N45, N48, N57, N59, N88, N89, N97, N99, N120, N121, N122, N179, N200, N255, N300, N400, N880, N900, N999, N1019, N50000000, N100000000, N1000000000, N2147483647, N2147483648, lcr]
    rw [show (t : Int) = b from by omega]
  | r + 1, t, n + 1, z, hz, hn, ht, t1 => by
    subst hz
    have mb := mul_b (t := t) h1 h2 (by omega)
    have me := Int.emod_nonneg (a * (t : Int)) (show b ≠ 0 by omega)
    have ml := Int.emod_lt_of_pos (a * (t : Int)) (show 0 < b by omega)
    have em : I (a * (t : Int)) % I b = I ((a * (t : Int)) % b) := I_mod (by unfold R; omega) (by unfold R; omega) mb.1 (by omega)
    rw [lcr]
    by_cases c : (a * (t : Int)) % b = 0
    · rw [if_pos c, f_X3_leastCommonMultiple_8]
      simp (disch := omega) only [↓reduceIte, gd_t, bd_s, nm_W, nm_I, I_add, I_sub, I_mul, I_neg, I_le_t, I_le_f, I_lt_t, I_lt_f, I_eq_t, I_eq_f, I_inb', I_ix', Int.toNat_natCast, decide_true, decide_false, Bool.not_false, Bool.not_true, if_true, if_false, wi_eq, wi_eq', wi_ne, wi_row, wi_2, N0, N1, N2, N3, N4, N5, N6, N7, N8, N9, N10, N11, N12, N13, N14, N15, N16, N17, N18, N19, N20, N21, N22, N23, N24, N25, N26, N27, N28, N29, N30, N31, N32, N33, N34, N35, N36, N37, N38, N39, N40, N41, N42, N43, N45, N48, N57, N59, N88, N89, N97, N99, N120, N121, N122, N179, N200, N255, N300, N400, N880, N900, N999, N1019, N50000000, N100000000, N1000000000, N2147483647, N2147483648, em]
    · rw [if_neg c, f_X3_leastCommonMultiple_8]
      simp (disch := omega) only [↓reduceIte, gd_t, bd_s, nm_W, nm_I, I_add, I_sub, I_mul, I_neg, I_le_t, I_le_f, I_lt_t, I_lt_f, I_eq_t, I_eq_f, I_inb', I_ix', Int.toNat_natCast, decide_true, decide_false, Bool.not_false, Bool.not_true, if_true, if_false, wi_eq, wi_eq', wi_ne, wi_row, wi_2, N0, N1, N2, N3, N4, N5, N6, N7, N8, N9, N10, N11, N12, N13, N14, N15, N16, N17, N18, N19, N20, N21, N22, N23, N24, N25, N26, N27, N28, N29, N30, N31, N32, N33, N34, N35, N36, N37, N38, N39, N40, N41, N42, N43, N45, N48, N57, N59, N88, N89, N97, N99, N120, N121, N122, N179, N200, N255, N300, N400, N880, N900, N999, N1019, N50000000, N100000000, N1000000000, N2147483647, N2147483648, em]
      exact c_lcm h1 h2 b1 b2 r (t + 1) n _ (by omega) (by omega) (by omega) (by omega)
theorem r_lcm {a b : Int} {σ : Wd} (h1 : 1 ≤ a) (h2 : a ≤ 20) (b1 : 1 ≤ b) (b2 : b ≤ 20) : ∀ (r t n : Nat) (z : Int), z = a * (t : Int) → r < n → (t : Int) + (r : Int) = b → 1 ≤ t → f_X7_common_2 n (I a) (I b) (I z) σ = some (I (lcr a b r t), σ)
  | 0, t, n + 1, z, hz, _, ht, _ => by
    have mb := mul_b (t := t) h1 h2 (by omega)
    have em : I z % I b = I 0 := by
      rw [I_mod (by unfold R; omega) (by unfold R; omega) (by omega) (by omega), hz, show (t : Int) = b from by omega, Int.mul_emod_left]
    rw [f_X7_common_2]
    simp (disch := omega) only [↓reduceIte, gd_t, bd_s, nm_W, nm_I, I_add, I_sub, I_mul, I_neg, I_le_t, I_le_f, I_lt_t, I_lt_f, I_eq_t, I_eq_f, I_inb', I_ix', Int.toNat_natCast, decide_true, decide_false, Bool.not_false, Bool.not_true, if_true, if_false, wi_eq, wi_eq', wi_ne, wi_row, wi_2, N0, N1, N2, N3, N4, N5, N6, N7, N8, N9, N10, N11, N12, N13, N14, N15, N16, N17, N18, N19, N20, N21, N22, N23, N24, N25, N26, N27, N28, N29, N30, N31, N32, N33, N34, N35, N36, N37, N38, N39, N40, N41, N42, N43, N45, N48, N57, N59, N88, N89, N97, N99, N120, N121, N122, N179, N200, N255, N300, N400, N880, N900, N999, N1019, N50000000, N100000000, N1000000000, N2147483647, N2147483648, em, lcr]
    rw [hz]
  | r + 1, t, n + 1, z, hz, hn, ht, t1 => by
    have mb := mul_b (t := t) h1 h2 (by omega)
    have mb2 := mul_b (t := t + 1) h1 h2 (by omega)
    have me := Int.emod_nonneg (a * (t : Int)) (show b ≠ 0 by omega)
    have ml := Int.emod_lt_of_pos (a * (t : Int)) (show 0 < b by omega)
    have em : I z % I b = I ((a * (t : Int)) % b) := by rw [I_mod (by unfold R; omega) (by unfold R; omega) (by omega) (by omega), hz]
    rw [lcr]
    by_cases c : (a * (t : Int)) % b = 0
    · rw [if_pos c, f_X7_common_2]
      simp (disch := omega) only [↓reduceIte, gd_t, bd_s, nm_W, nm_I, I_add, I_sub, I_mul, I_neg, I_le_t, I_le_f, I_lt_t, I_lt_f, I_eq_t, I_eq_f, I_inb', I_ix', Int.toNat_natCast, decide_true, decide_false, Bool.not_false, Bool.not_true, if_true, if_false, wi_eq, wi_eq', wi_ne, wi_row, wi_2, N0, N1, N2, N3, N4, N5, N6, N7, N8, N9, N10, N11, N12, N13, N14, N15, N16, N17, N18, N19, N20, N21, N22, N23, N24, N25, N26, N27, N28, N29, N30, N31, N32, N33, N34, N35, N36, N37, N38, N39, N40, N41, N42, N43, N45, N48, N57, N59, N88, N89, N97, N99, N120, N121, N122, N179, N200, N255, N300, N400, N880, N900, N999, N1019, N50000000, N100000000, N1000000000, N2147483647, N2147483648, em]
      rw [hz]
    · rw [if_neg c, f_X7_common_2]
      simp (disch := omega) only [↓reduceIte, gd_t, bd_s, nm_W, nm_I, I_add, I_sub, I_mul, I_neg, I_le_t, I_le_f, I_lt_t, I_lt_f, I_eq_t, I_eq_f, I_inb', I_ix', Int.toNat_natCast, decide_true, decide_false, Bool.not_false, Bool.not_true, if_true, if_false, wi_eq, wi_eq', wi_ne, wi_row, wi_2, N0, N1, N2, N3, N4, N5, N6, N7, N8, N9, N10, N11, N12, N13, N14, N15, N16, N17, N18, N19, N20, N21, N22, N23, N24, N25, N26, N27, N28, N29, N30, N31, N32, N33, N34, N35, N36, N37, N38, N39, N40, N41, N42, N43, N45, N48, N57, N59, N88, N89, N97, N99, N120, N121, N122, N179, N200, N255, N300, N400, N880, N900, N999, N1019, N50000000, N100000000, N1000000000, N2147483647, N2147483648, em]
      exact r_lcm h1 h2 b1 b2 r (t + 1) n _ (by rw [hz, show (((t + 1 : Nat)) : Int) = (t : Int) + 1 from by omega, Int.mul_add, Int.mul_one]) (by omega) (by omega) (by omega)
def lcv (a b : Int) : Int := lcr a b (b - 1).toNat 1
theorem lcv_b {a b : Int} (h1 : 1 ≤ a) (h2 : a ≤ 20) (b1 : 1 ≤ b) (b2 : b ≤ 20) : 0 ≤ lcv a b ∧ lcv a b ≤ 400 := lcr_b h1 h2 _ 1 (by omega)
theorem cLcm {a b : Int} {σ : Wd} (h1 : 1 ≤ a) (h2 : a ≤ 20) (b1 : 1 ≤ b) (b2 : b ≤ 20) : f_X3_leastCommonMultiple (I a) (I b) σ = some (I (lcv a b), σ) := by
  have e := c_lcm (σ := σ) h1 h2 b1 b2 (b - 1).toNat 1 FU 1 rfl (by show _ < 6000; omega) (by omega) (by omega)
  unfold f_X3_leastCommonMultiple
  simp (disch := omega) only [↓reduceIte, gd_t, bd_s, nm_W, nm_I, I_add, I_sub, I_mul, I_neg, I_le_t, I_le_f, I_lt_t, I_lt_f, I_eq_t, I_eq_f, I_inb', I_ix', Int.toNat_natCast, decide_true, decide_false, Bool.not_false, Bool.not_true, if_true, if_false, wi_eq, wi_eq', wi_ne, wi_row, wi_2, N0, N1, N2, N3, N4, N5, N6, N7, N8, N9, N10, N11, N12, N13, N14, N15, N16, N17, N18, N19, N20, N21, N22, N23, N24, N25, N26, N27, N28, N29, N30, N31, N32, N33, N34, N35, N36, N37, N38, N39, N40, N41, N42, N43, N45, N48, N57, N59, N88, N89, N97, N99, N120, N121, N122, N179, N200, N255, N300, N400, N880, N900, N999, N1019, N50000000, N100000000, N1000000000, N2147483647, N2147483648, e]
  rfl
theorem rLcm {a b : Int} {σ : Wd} (h1 : 1 ≤ a) (h2 : a ≤ 20) (b1 : 1 ≤ b) (b2 : b ≤ 20) : f_X7_common (I a) (I b) σ = some (I (lcv a b), σ) :=
  r_lcm h1 h2 b1 b2 (b - 1).toNat 1 FU a (by omega) (by show _ < 6000; omega) (by omega) (by omega)
/-- by how much a move makes the plan dearer -/
def mvc (d : MD) (p : Int) (pl : Nat → Int) (v w : Nat) : Int :=
  if v = w then 0 else if pl v < lcv (d.lo v) (d.lo w) then 0 else if pl w + lcv (d.lo v) (d.lo w) ≤ dep d p w then cst d v (pl v - lcv (d.lo v) (d.lo w)) - cst d v (pl v) + cst d w (pl w + lcv (d.lo v) (d.lo w)) - cst d w (pl w) else 0
theorem mvc_b {d : MD} {V v w : Nat} {p : Int} {pl : Nat → Int} (hd : MDok d V) (hv : v < V) (hw : w < V) (hb : PB pl V) : -5000000 ≤ mvc d p pl v w ∧ mvc d p pl v w ≤ 5000000 := by
  obtain ⟨-, lv, -⟩ := hd.2 v hv
  obtain ⟨-, lw, -⟩ := hd.2 w hw
  have lb := lcv_b lv.1 lv.2 lw.1 lw.2
  have b1 := hb v hv
  have b2 := hb w hw
  unfold mvc
  split
  · omega
  · split
    · omega
    · split
      · have c1 := cst_bnd (n := pl v - lcv (d.lo v) (d.lo w)) hd hv (by omega) (by omega)
        have c2 := cst_bnd (n := pl v) hd hv (by omega) (by omega)
        have c3 := cst_bnd (n := pl w + lcv (d.lo v) (d.lo w)) hd hw (by omega) (by omega)
        have c4 := cst_bnd (n := pl w) hd hw (by omega) (by omega)
        omega
      · omega
theorem cMove {m : Nat} {σ : Wd} {V v w : Nat} {d : MD} {p : Int} {pl : Nat → Int} (h : CV m σ V d) (hd : MDok d V) (hp : R p) (hl : σ.1 m 1 = I p) (hv : v < V) (hw : w < V) (hb : PB pl V) (hpl : ∀ v, v < V → σ.1 (m + 7) v = I (pl v)) :
    f_X3_moveCost m (I (v : Int)) (I (w : Int)) σ = some (I (mvc d p pl v w), σ) := by
  have h5 := hd.1
  obtain ⟨-, lv, -⟩ := hd.2 v hv
  obtain ⟨-, lw, -⟩ := hd.2 w hw
  have lb := lcv_b lv.1 lv.2 lw.1 lw.2
  have b1 := hb v hv
  have b2 := hb w hw
  have db := dep_bnd (p := p) hd hw
  have el := cLcm (σ := σ) lv.1 lv.2 lw.1 lw.2
  unfold mvc
  by_cases c1 : v = w
  · rw [if_pos c1]
    unfold f_X3_moveCost
    simp (disch := omega) only [↓reduceIte, gd_t, bd_s, nm_W, nm_I, I_add, I_sub, I_mul, I_neg, I_le_t, I_le_f, I_lt_t, I_lt_f, I_eq_t, I_eq_f, I_inb', I_ix', Int.toNat_natCast, decide_true, decide_false, Bool.not_false, Bool.not_true, if_true, if_false, wi_eq, wi_eq', wi_ne, wi_row, wi_2, N0, N1, N2, N3, N4, N5, N6, N7, N8, N9, N10, N11, N12, N13, N14, N15, N16, N17, N18, N19, N20, N21, N22, N23, N24, N25, N26, N27, N28, N29, N30, N31, N32, N33, N34, N35, N36, N37, N38, N39, N40, N41, N42, N43, N45, N48, N57, N59, N88, N89, N97, N99, N120, N121, N122, N179, N200, N255, N300, N400, N880, N900, N999, N1019, N50000000, N100000000, N1000000000, N2147483647, N2147483648]
  · rw [if_neg c1]
    by_cases c2 : pl v < lcv (d.lo v) (d.lo w)
    · rw [if_pos c2]
      unfold f_X3_moveCost
      simp (disch := omega) only [↓reduceIte, gd_t, bd_s, nm_W, nm_I, I_add, I_sub, I_mul, I_neg, I_le_t, I_le_f, I_lt_t, I_lt_f, I_eq_t, I_eq_f, I_inb', I_ix', Int.toNat_natCast, decide_true, decide_false, Bool.not_false, Bool.not_true, if_true, if_false, wi_eq, wi_eq', wi_ne, wi_row, wi_2, N0, N1, N2, N3, N4, N5, N6, N7, N8, N9, N10, N11, N12, N13, N14, N15, N16, N17, N18, N19, N20, N21, N22, N23, N24, N25, N26, N27, N28, N29, N30, N31, N32, N33, N34, N35, N36, N37, N38, N39, N40, N41, N42, N43, N45, N48, N57, N59, N88, N89, N97, N99, N120, N121, N122, N179, N200, N255, N300, N400, N880, N900, N999, N1019, N50000000, N100000000, N1000000000, N2147483647, N2147483648, cLot h hd hv, cLot h hd hw, el, hpl v hv, f_X3_moveCost_47]
    · rw [if_neg c2]
      by_cases c3 : pl w + lcv (d.lo v) (d.lo w) ≤ dep d p w
      · rw [if_pos c3]
        unfold f_X3_moveCost
        simp (disch := omega) only [↓reduceIte, gd_t, bd_s, nm_W, nm_I, I_add, I_sub, I_mul, I_neg, I_le_t, I_le_f, I_lt_t, I_lt_f, I_eq_t, I_eq_f, I_inb', I_ix', Int.toNat_natCast, decide_true, decide_false, Bool.not_false, Bool.not_true, if_true, if_false, wi_eq, wi_eq', wi_ne, wi_row, wi_2, N0, N1, N2, N3, N4, N5, N6, N7, N8, N9, N10, N11, N12, N13, N14, N15, N16, N17, N18, N19, N20, N21, N22, N23, N24, N25, N26, N27, N28, N29, N30, N31, N32, N33, N34, N35, N36, N37, N38, N39, N40, N41, N42, N43, N45, N48, N57, N59, N88, N89, N97, N99, N120, N121, N122, N179, N200, N255, N300, N400, N880, N900, N999, N1019, N50000000, N100000000, N1000000000, N2147483647, N2147483648, cLot h hd hv, cLot h hd hw, el, hpl v hv, hpl w hw, cDepth h hd hw hp hl, cCost h hd hv (n := pl v - lcv (d.lo v) (d.lo w)) (by omega) (by omega), cCost h hd hv (n := pl v) (by omega) (by omega), cCost h hd hw (n := pl w + lcv (d.lo v) (d.lo w)) (by omega) (by omega), cCost h hd hw (n := pl w) (by omega) (by omega)]
      · rw [if_neg c3]
        unfold f_X3_moveCost
        simp (disch := omega) only [↓reduceIte, gd_t, bd_s, nm_W, nm_I, I_add, I_sub, I_mul, I_neg, I_le_t, I_le_f, I_lt_t, I_lt_f, I_eq_t, I_eq_f, I_inb', I_ix', Int.toNat_natCast, decide_true, decide_false, Bool.not_false, Bool.not_true, if_true, if_false, wi_eq, wi_eq', wi_ne, wi_row, wi_2, N0, N1, N2, N3, N4, N5, N6, N7, N8, N9, N10, N11, N12, N13, N14, N15, N16, N17, N18, N19, N20, N21, N22, N23, N24, N25, N26, N27, N28, N29, N30, N31, N32, N33, N34, N35, N36, N37, N38, N39, N40, N41, N42, N43, N45, N48, N57, N59, N88, N89, N97, N99, N120, N121, N122, N179, N200, N255, N300, N400, N880, N900, N999, N1019, N50000000, N100000000, N1000000000, N2147483647, N2147483648, cLot h hd hv, cLot h hd hw, el, hpl v hv, hpl w hw, cDepth h hd hw hp hl, f_X3_moveCost_47]
end
section
/-! PURE: the best move -/
def mv1 (d : MD) (p : Int) (pl : Nat → Int) (v : Nat) : Nat → Nat → Int × Int → Int × Int
  | 0, _, a => a
  | r + 1, w, a => mv1 d p pl v r (w + 1) (if mvc d p pl v w < a.2 then (10 * (v : Int) + (w : Int), mvc d p pl v w) else a)
def mv2 (d : MD) (p : Int) (pl : Nat → Int) (V : Nat) : Nat → Nat → Int × Int → Int × Int
  | 0, _, a => a
  | r + 1, v, a => mv2 d p pl V r (v + 1) (mv1 d p pl v V 0 a)
def mvb (a : Int × Int) : Prop := a.2 ≤ 0 ∧ -5000000 ≤ a.2
theorem mv1_b {d : MD} {V v : Nat} {p : Int} {pl : Nat → Int} (hd : MDok d V) (hv : v < V) (hb : PB pl V) : ∀ (r w : Nat) (a : Int × Int), w + r = V → mvb a → mvb (mv1 d p pl v r w a)
  | 0, _, _, _, h => h
  | r + 1, w, a, hw, h => by
    unfold mv1
    refine mv1_b hd hv hb r (w + 1) _ (by omega) ?_
    have b := mvc_b (p := p) hd hv (show w < V by omega) hb
    split
    · rename_i c
      have := h.1
      exact ⟨by show mvc d p pl v w ≤ 0; omega, b.1⟩
    · exact h
theorem c_mv1 {m : Nat} {σ : Wd} {V v : Nat} {d : MD} {p : Int} {pl : Nat → Int} {k25 : Int32 → Int32 → Int32 → Wd → Option (Int32 × Wd)} (hm : σ.2.2 0 4 = m) (hM : bM m = true) (h : CV m σ V d) (hd : MDok d V) (hp : R p) (hl : σ.1 m 1 = I p) (hv : v < V) (hb : PB pl V) (hpl : ∀ v, v < V → σ.1 (m + 7) v = I (pl v)) :
    ∀ (r w n : Nat) (z : Int) (a : Int × Int), z = (w : Int) → r < n → w + r = V → mvb a →
      f_X6_move_39 k25 n (I a.1) (I a.2) (I (v : Int)) (I z) σ = k25 (I (mv1 d p pl v r w a).1) (I (mv1 d p pl v r w a).2) (I ((v : Int) + 1)) σ
  | 0, w, n + 1, z, a, hz, _, hw, _ => by
    have h5 := hd.1
    rw [f_X6_move_39]
    simp (disch := omega) only [↓reduceIte, gd_t, bd_s, nm_W, nm_I, I_add, I_sub, I_mul, I_neg, I_le_t, I_le_f, I_lt_t, I_lt_f, I_eq_t, I_eq_f, I_inb', I_ix', Int.toNat_natCast, decide_true, decide_false, Bool.not_false, Bool.not_true, if_true, if_false, wi_eq, wi_eq', wi_ne, wi_row, wi_2, N0, N1, N2, N3, N4, N5, N6, N7, N8, N9, N10, N11, N12, N13, N14, N15, N16, N17, N18, N19, N20, N21, N22, N23, N24, N25, N26, N27, N28, N29, N30, N31, N32, N33, N34, N35, N36, N37, N38, N39, N40, N41, N42, N43, N45, N48, N57, N59, N88, N89, N97, N99, N120, N121, N122, N179, N200, N255, N300, N400, N880, N900, N999, N1019, N50000000, N100000000, N1000000000, N2147483647, N2147483648, hm, hM, h.1, mv1]
  | r + 1, w, n + 1, z, a, hz, hn, hw, ha => by
    subst hz
    have h5 := hd.1
    have hwV : w < V := by omega
    have b := mvc_b (p := p) hd hv hwV hb
    have a1 := ha.1
    have a2 := ha.2
    have e := cMove h hd hp hl hv hwV hb hpl
    rw [mv1]
    by_cases c : mvc d p pl v w < a.2
    · rw [if_pos c, f_X6_move_39]
      simp (disch := omega) only [↓reduceIte, gd_t, bd_s, nm_W, nm_I, I_add, I_sub, I_mul, I_neg, I_le_t, I_le_f, I_lt_t, I_lt_f, I_eq_t, I_eq_f, I_inb', I_ix', Int.toNat_natCast, decide_true, decide_false, Bool.not_false, Bool.not_true, if_true, if_false, wi_eq, wi_eq', wi_ne, wi_row, wi_2, N0, N1, N2, N3, N4, N5, N6, N7, N8, N9, N10, N11, N12, N13, N14, N15, N16, N17, N18, N19, N20, N21, N22, N23, N24, N25, N26, N27, N28, N29, N30, N31, N32, N33, N34, N35, N36, N37, N38, N39, N40, N41, N42, N43, N45, N48, N57, N59, N88, N89, N97, N99, N120, N121, N122, N179, N200, N255, N300, N400, N880, N900, N999, N1019, N50000000, N100000000, N1000000000, N2147483647, N2147483648, hm, hM, h.1, e, f_X6_move_80]
      exact c_mv1 hm hM h hd hp hl hv hb hpl r (w + 1) n _ (10 * (v : Int) + (w : Int), mvc d p pl v w) (by omega) (by omega) (by omega) ⟨by show mvc d p pl v w ≤ 0; omega, b.1⟩
    · rw [if_neg c, f_X6_move_39]
      simp (disch := omega) only [↓reduceIte, gd_t, bd_s, nm_W, nm_I, I_add, I_sub, I_mul, I_neg, I_le_t, I_le_f, I_lt_t, I_lt_f, I_eq_t, I_eq_f, I_inb', I_ix', Int.toNat_natCast, decide_true, decide_false, Bool.not_false, Bool.not_true, if_true, if_false, wi_eq, wi_eq', wi_ne, wi_row, wi_2, N0, N1, N2, N3, N4, N5, N6, N7, N8, N9, N10, N11, N12, N13, N14, N15, N16, N17, N18, N19, N20, N21, N22, N23, N24, N25, N26, N27, N28, N29, N30, N31, N32, N33, N34, N35, N36, N37, N38, N39, N40, N41, N42, N43, N45, N48, N57, N59, N88, N89, N97, N99, N120, N121, N122, N179, N200, N255, N300, N400, N880, N900, N999, N1019, N50000000, N100000000, N1000000000, N2147483647, N2147483648, hm, hM, h.1, e, f_X6_move_80]
      exact c_mv1 hm hM h hd hp hl hv hb hpl r (w + 1) n _ a (by omega) (by omega) (by omega) ha
theorem c_mv2 {m : Nat} {σ : Wd} {V : Nat} {d : MD} {p : Int} {pl : Nat → Int} (hm : σ.2.2 0 4 = m) (hM : bM m = true) (h : CV m σ V d) (hd : MDok d V) (hp : R p) (hl : σ.1 m 1 = I p) (hb : PB pl V) (hpl : ∀ v, v < V → σ.1 (m + 7) v = I (pl v)) :
    ∀ (r v n : Nat) (z : Int) (a : Int × Int), z = (v : Int) → r < n → v + r = V → mvb a →
      f_X6_move_25 n (I a.1) (I a.2) (I z) σ = some (I (mv2 d p pl V r v a).1, σ)
  | 0, v, n + 1, z, a, hz, _, hv, _ => by
    have h5 := hd.1
    rw [f_X6_move_25]
    simp (disch := omega) only [↓reduceIte, gd_t, bd_s, nm_W, nm_I, I_add, I_sub, I_mul, I_neg, I_le_t, I_le_f, I_lt_t, I_lt_f, I_eq_t, I_eq_f, I_inb', I_ix', Int.toNat_natCast, decide_true, decide_false, Bool.not_false, Bool.not_true, if_true, if_false, wi_eq, wi_eq', wi_ne, wi_row, wi_2, N0, N1, N2, N3, N4, N5, N6, N7, N8, N9, N10, N11, N12, N13, N14, N15, N16, N17, N18, N19, N20, N21, N22, N23, N24, N25, N26, N27, N28, N29, N30, N31, N32, N33, N34, N35, N36, N37, N38, N39, N40, N41, N42, N43, N45, N48, N57, N59, N88, N89, N97, N99, N120, N121, N122, N179, N200, N255, N300, N400, N880, N900, N999, N1019, N50000000, N100000000, N1000000000, N2147483647, N2147483648, hm, hM, h.1, mv2]
  | r + 1, v, n + 1, z, a, hz, hn, hv, ha => by
    subst hz
    have h5 := hd.1
    have hvV : v < V := by omega
    have e := c_mv1 (k25 := f_X6_move_25 n) hm hM h hd hp hl hvV hb hpl V 0 FU 0 a rfl (by show _ < 6000; omega) (by omega) ha
    rw [mv2, f_X6_move_25]
    simp (disch := omega) only [↓reduceIte, gd_t, bd_s, nm_W, nm_I, I_add, I_sub, I_mul, I_neg, I_le_t, I_le_f, I_lt_t, I_lt_f, I_eq_t, I_eq_f, I_inb', I_ix', Int.toNat_natCast, decide_true, decide_false, Bool.not_false, Bool.not_true, if_true, if_false, wi_eq, wi_eq', wi_ne, wi_row, wi_2, N0, N1, N2, N3, N4, N5, N6, N7, N8, N9, N10, N11, N12, N13, N14, N15, N16, N17, N18, N19, N20, N21, N22, N23, N24, N25, N26, N27, N28, N29, N30, N31, N32, N33, N34, N35, N36, N37, N38, N39, N40, N41, N42, N43, N45, N48, N57, N59, N88, N89, N97, N99, N120, N121, N122, N179, N200, N255, N300, N400, N880, N900, N999, N1019, N50000000, N100000000, N1000000000, N2147483647, N2147483648, hm, hM, h.1, e]
    exact c_mv2 hm hM h hd hp hl hb hpl r (v + 1) n _ _ (by omega) (by omega) (by omega) (mv1_b hd hvV hb V 0 a (by omega) ha)
theorem r_mv1 {σ : Wd} {V v : Nat} {d : MD} {p : Int} {pl : Nat → Int} {k38 : Int32 → Int32 → Int32 → Wd → Option (Int32 × Wd)} (h : RV σ V d) (hd : MDok d V) (hp : R p) (hl : σ.1 102 12 = I p) (hv : v < V) (hb : PB pl V) (hpl : ∀ v, v < V → σ.1 112 (43 + v) = I (pl v)) :
    ∀ (r w n : Nat) (z : Int) (a : Int × Int), z = (w : Int) → r < n → w + r = V → mvb a →
      f_X7_move_49 k38 n (I a.1) (I a.2) (I (v : Int)) (I z) σ = k38 (I (mv1 d p pl v r w a).1) (I (mv1 d p pl v r w a).2) (I ((v : Int) + 1)) σ
  | 0, w, n + 1, z, a, hz, _, hw, _ => by
    have h5 := hd.1
    rw [f_X7_move_49]
    simp (disch := omega) only [↓reduceIte, gd_t, bd_s, nm_W, nm_I, I_add, I_sub, I_mul, I_neg, I_le_t, I_le_f, I_lt_t, I_lt_f, I_eq_t, I_eq_f, I_inb', I_ix', Int.toNat_natCast, decide_true, decide_false, Bool.not_false, Bool.not_true, if_true, if_false, wi_eq, wi_eq', wi_ne, wi_row, wi_2, N0, N1, N2, N3, N4, N5, N6, N7, N8, N9, N10, N11, N12, N13, N14, N15, N16, N17, N18, N19, N20, N21, N22, N23, N24, N25, N26, N27, N28, N29, N30, N31, N32, N33, N34, N35, N36, N37, N38, N39, N40, N41, N42, N43, N45, N48, N57, N59, N88, N89, N97, N99, N120, N121, N122, N179, N200, N255, N300, N400, N880, N900, N999, N1019, N50000000, N100000000, N1000000000, N2147483647, N2147483648, h.1, mv1]
  | r + 1, w, n + 1, z, a, hz, hn, hw, ha => by
    subst hz
    have h5 := hd.1
    have hwV : w < V := by omega
    obtain ⟨-, lv, -⟩ := hd.2 v hv
    obtain ⟨-, lw, -⟩ := hd.2 w hwV
    have lb := lcv_b lv.1 lv.2 lw.1 lw.2
    have bv := hb v hv
    have bw := hb w hwV
    have db := dep_bnd (p := p) hd hwV
    have el := rLcm (σ := σ) lv.1 lv.2 lw.1 lw.2
    have b := mvc_b (p := p) hd hv hwV hb
    have a1 := ha.1
    have a2 := ha.2
    have t1 : ((43 : Int) + (v : Int)).toNat = 43 + v := by omega
    have t2 : ((43 : Int) + (w : Int)).toNat = 43 + w := by omega
    rw [mv1]
    by_cases c1 : v = w
    · have em : mvc d p pl v w = 0 := by unfold mvc; rw [if_pos c1]
      rw [if_neg (by omega), f_X7_move_49]
      simp (disch := omega) only [↓reduceIte, gd_t, bd_s, nm_W, nm_I, I_add, I_sub, I_mul, I_neg, I_le_t, I_le_f, I_lt_t, I_lt_f, I_eq_t, I_eq_f, I_inb', I_ix', Int.toNat_natCast, decide_true, decide_false, Bool.not_false, Bool.not_true, if_true, if_false, wi_eq, wi_eq', wi_ne, wi_row, wi_2, N0, N1, N2, N3, N4, N5, N6, N7, N8, N9, N10, N11, N12, N13, N14, N15, N16, N17, N18, N19, N20, N21, N22, N23, N24, N25, N26, N27, N28, N29, N30, N31, N32, N33, N34, N35, N36, N37, N38, N39, N40, N41, N42, N43, N45, N48, N57, N59, N88, N89, N97, N99, N120, N121, N122, N179, N200, N255, N300, N400, N880, N900, N999, N1019, N50000000, N100000000, N1000000000, N2147483647, N2147483648, h.1, rLot h hd hv, rLot h hd hwV, el, f_X7_move_210]
      exact r_mv1 h hd hp hl hv hb hpl r (w + 1) n _ a (by omega) (by omega) (by omega) ha
    · by_cases c2 : pl v < lcv (d.lo v) (d.lo w)
      · have em : mvc d p pl v w = 0 := by unfold mvc; rw [if_neg c1, if_pos c2]
        rw [if_neg (by omega), f_X7_move_49]
        simp (disch := omega) only [↓reduceIte, gd_t, bd_s, nm_W, nm_I, I_add, I_sub, I_mul, I_neg, I_le_t, I_le_f, I_lt_t, I_lt_f, I_eq_t, I_eq_f, I_inb', I_ix', Int.toNat_natCast, decide_true, decide_false, Bool.not_false, Bool.not_true, if_true, if_false, wi_eq, wi_eq', wi_ne, wi_row, wi_2, N0, N1, N2, N3, N4, N5, N6, N7, N8, N9, N10, N11, N12, N13, N14, N15, N16, N17, N18, N19, N20, N21, N22, N23, N24, N25, N26, N27, N28, N29, N30, N31, N32, N33, N34, N35, N36, N37, N38, N39, N40, N41, N42, N43, N45, N48, N57, N59, N88, N89, N97, N99, N120, N121, N122, N179, N200, N255, N300, N400, N880, N900, N999, N1019, N50000000, N100000000, N1000000000, N2147483647, N2147483648, h.1, rLot h hd hv, rLot h hd hwV, el, t1, hpl v hv, f_X7_move_210]
        exact r_mv1 h hd hp hl hv hb hpl r (w + 1) n _ a (by omega) (by omega) (by omega) ha
      · by_cases c3 : pl w + lcv (d.lo v) (d.lo w) ≤ dep d p w
        · have em : cst d v (pl v - lcv (d.lo v) (d.lo w)) + cst d w (pl w + lcv (d.lo v) (d.lo w)) - cst d v (pl v) - cst d w (pl w) = mvc d p pl v w := by
            unfold mvc
            rw [if_neg c1, if_neg c2, if_pos c3]
            omega
          by_cases c : mvc d p pl v w < a.2
          · rw [if_pos c, f_X7_move_49]
            simp (disch := omega) only [↓reduceIte, gd_t, bd_s, nm_W, nm_I, I_add, I_sub, I_mul, I_neg, I_le_t, I_le_f, I_lt_t, I_lt_f, I_eq_t, I_eq_f, I_inb', I_ix', Int.toNat_natCast, decide_true, decide_false, Bool.not_false, Bool.not_true, if_true, if_false, wi_eq, wi_eq', wi_ne, wi_row, wi_2, N0, N1, N2, N3, N4, N5, N6, N7, N8, N9, N10, N11, N12, N13, N14, N15, N16, N17, N18, N19, N20, N21, N22, N23, N24, N25, N26, N27, N28, N29, N30, N31, N32, N33, N34, N35, N36, N37, N38, N39, N40, N41, N42, N43, N45, N48, N57, N59, N88, N89, N97, N99, N120, N121, N122, N179, N200, N255, N300, N400, N880, N900, N999, N1019, N50000000, N100000000, N1000000000, N2147483647, N2147483648, h.1, rLot h hd hv, rLot h hd hwV, el, t1, t2, hpl v hv, hpl w hwV, rDepth h hd hwV hp hl, rCost h hd hv (n := pl v - lcv (d.lo v) (d.lo w)) (by omega) (by omega), rCost h hd hv (n := pl v) (by omega) (by omega), rCost h hd hwV (n := pl w + lcv (d.lo v) (d.lo w)) (by omega) (by omega), rCost h hd hwV (n := pl w) (by omega) (by omega), em, f_X7_move_210]
            exact r_mv1 h hd hp hl hv hb hpl r (w + 1) n _ (10 * (v : Int) + (w : Int), mvc d p pl v w) (by omega) (by omega) (by omega) ⟨by show mvc d p pl v w ≤ 0; omega, b.1⟩
          · rw [if_neg c, f_X7_move_49]
            simp (disch := omega) only [↓reduceIte, gd_t, bd_s, nm_W, nm_I, I_add, I_sub, I_mul, I_neg, I_le_t, I_le_f, I_lt_t, I_lt_f, I_eq_t, I_eq_f, I_inb', I_ix', Int.toNat_natCast, decide_true, decide_false, Bool.not_false, Bool.not_true, if_true, if_false, wi_eq, wi_eq', wi_ne, wi_row, wi_2, N0, N1, N2, N3, N4, N5, N6, N7, N8, N9, N10, N11, N12, N13, N14, N15, N16, N17, N18, N19, N20, N21, N22, N23, N24, N25, N26, N27, N28, N29, N30, N31, N32, N33, N34, N35, N36, N37, N38, N39, N40, N41, N42, N43, N45, N48, N57, N59, N88, N89, N97, N99, N120, N121, N122, N179, N200, N255, N300, N400, N880, N900, N999, N1019, N50000000, N100000000, N1000000000, N2147483647, N2147483648, h.1, rLot h hd hv, rLot h hd hwV, el, t1, t2, hpl v hv, hpl w hwV, rDepth h hd hwV hp hl, rCost h hd hv (n := pl v - lcv (d.lo v) (d.lo w)) (by omega) (by omega), rCost h hd hv (n := pl v) (by omega) (by omega), rCost h hd hwV (n := pl w + lcv (d.lo v) (d.lo w)) (by omega) (by omega), rCost h hd hwV (n := pl w) (by omega) (by omega), em, f_X7_move_210]
            exact r_mv1 h hd hp hl hv hb hpl r (w + 1) n _ a (by omega) (by omega) (by omega) ha
        · have em : mvc d p pl v w = 0 := by unfold mvc; rw [if_neg c1, if_neg c2, if_neg c3]
          rw [if_neg (by omega), f_X7_move_49]
          simp (disch := omega) only [↓reduceIte, gd_t, bd_s, nm_W, nm_I, I_add, I_sub, I_mul, I_neg, I_le_t, I_le_f, I_lt_t, I_lt_f, I_eq_t, I_eq_f, I_inb', I_ix', Int.toNat_natCast, decide_true, decide_false, Bool.not_false, Bool.not_true, if_true, if_false, wi_eq, wi_eq', wi_ne, wi_row, wi_2, N0, N1, N2, N3, N4, N5, N6, N7, N8, N9, N10, N11, N12, N13, N14, N15, N16, N17, N18, N19, N20, N21, N22, N23, N24, N25, N26, N27, N28, N29, N30, N31, N32, N33, N34, N35, N36, N37, N38, N39, N40, N41, N42, N43, N45, N48, N57, N59, N88, N89, N97, N99, N120, N121, N122, N179, N200, N255, N300, N400, N880, N900, N999, N1019, N50000000, N100000000, N1000000000, N2147483647, N2147483648, h.1, rLot h hd hv, rLot h hd hwV, el, t1, t2, hpl v hv, hpl w hwV, rDepth h hd hwV hp hl, f_X7_move_210]
          exact r_mv1 h hd hp hl hv hb hpl r (w + 1) n _ a (by omega) (by omega) (by omega) ha
theorem r_mv2 {σ : Wd} {V : Nat} {d : MD} {p : Int} {pl : Nat → Int} (h : RV σ V d) (hd : MDok d V) (hp : R p) (hl : σ.1 102 12 = I p) (hb : PB pl V) (hpl : ∀ v, v < V → σ.1 112 (43 + v) = I (pl v)) :
    ∀ (r v n : Nat) (z : Int) (a : Int × Int), z = (v : Int) → r < n → v + r = V → mvb a →
      f_X7_move_38 n (I a.1) (I a.2) (I z) σ = bd (f_X7_good (I (mv2 d p pl V r v a).1) σ) (fun r1 σ2 => some (r1, σ2))
  | 0, v, n + 1, z, a, hz, _, hv, _ => by
    have h5 := hd.1
    rw [f_X7_move_38]
    simp (disch := omega) only [↓reduceIte, gd_t, bd_s, nm_W, nm_I, I_add, I_sub, I_mul, I_neg, I_le_t, I_le_f, I_lt_t, I_lt_f, I_eq_t, I_eq_f, I_inb', I_ix', Int.toNat_natCast, decide_true, decide_false, Bool.not_false, Bool.not_true, if_true, if_false, wi_eq, wi_eq', wi_ne, wi_row, wi_2, N0, N1, N2, N3, N4, N5, N6, N7, N8, N9, N10, N11, N12, N13, N14, N15, N16, N17, N18, N19, N20, N21, N22, N23, N24, N25, N26, N27, N28, N29, N30, N31, N32, N33, N34, N35, N36, N37, N38, N39, N40, N41, N42, N43, N45, N48, N57, N59, N88, N89, N97, N99, N120, N121, N122, N179, N200, N255, N300, N400, N880, N900, N999, N1019, N50000000, N100000000, N1000000000, N2147483647, N2147483648, h.1, mv2]
  | r + 1, v, n + 1, z, a, hz, hn, hv, ha => by
    subst hz
    have h5 := hd.1
    have hvV : v < V := by omega
    have e := r_mv1 (k38 := f_X7_move_38 n) h hd hp hl hvV hb hpl V 0 FU 0 a rfl (by show _ < 6000; omega) (by omega) ha
    rw [mv2, f_X7_move_38]
    simp (disch := omega) only [↓reduceIte, gd_t, bd_s, nm_W, nm_I, I_add, I_sub, I_mul, I_neg, I_le_t, I_le_f, I_lt_t, I_lt_f, I_eq_t, I_eq_f, I_inb', I_ix', Int.toNat_natCast, decide_true, decide_false, Bool.not_false, Bool.not_true, if_true, if_false, wi_eq, wi_eq', wi_ne, wi_row, wi_2, N0, N1, N2, N3, N4, N5, N6, N7, N8, N9, N10, N11, N12, N13, N14, N15, N16, N17, N18, N19, N20, N21, N22, N23, N24, N25, N26, N27, N28, N29, N30, N31, N32, N33, N34, N35, N36, N37, N38, N39, N40, N41, N42, N43, N45, N48, N57, N59, N88, N89, N97, N99, N120, N121, N122, N179, N200, N255, N300, N400, N880, N900, N999, N1019, N50000000, N100000000, N1000000000, N2147483647, N2147483648, h.1, e]
    exact r_mv2 h hd hp hl hb hpl r (v + 1) n _ _ (by omega) (by omega) (by omega) (mv1_b hd hvV hb V 0 a (by omega) ha)
end
section
/-! PURE: the ledger -/
def fi (P : Nat → Bool) : Nat → Nat → Option Nat
  | 0, _ => none
  | r + 1, i => if P i then some i else fi P r (i + 1)
def fo : Option Nat → Int
  | none => -1
  | some i => (i : Int)
theorem fi_some {P : Nat → Bool} {j : Nat} : ∀ (r i : Nat), fi P r i = some j → i ≤ j ∧ j < i + r ∧ P j = true
  | 0, _, h => by cases h
  | r + 1, i, h => by
    unfold fi at h
    split at h
    · rename_i c
      cases h
      exact ⟨Nat.le_refl _, by omega, c⟩
    · have := fi_some r (i + 1) h
      exact ⟨by omega, by omega, this.2.2⟩
theorem fi_none {P : Nat → Bool} : ∀ (r i : Nat), fi P r i = none → ∀ j, i ≤ j → j < i + r → P j = false
  | 0, _, _, j, h1, h2 => absurd h2 (by omega)
  | r + 1, i, h, j, h1, h2 => by
    unfold fi at h
    split at h
    · cases h
    · rename_i c
      by_cases e : j = i
      · subst e
        exact Bool.eq_false_iff.mpr c
      · exact fi_none r (i + 1) h j (by omega) (by omega)
def mt (σ : Wd) (b : Nat) (x1 x2 : Int32) (i : Nat) : Bool := decide (σ.1 (b + 1) i = x1 ∧ σ.1 (b + 2) i = x2)
theorem c_find {b : Nat} {σ : Wd} {c : Nat} {x1 x2 : Int32} (hc : c ≤ 30) (h : σ.1 b 0 = I (c : Int)) :
    ∀ (r i n : Nat) (z : Int), z = (i : Int) → i + r = c → r < n → f_X2_find_2 b n x1 x2 (I z) σ = some (I (fo (fi (mt σ b x1 x2) r i)), σ)
  | 0, i, n + 1, z, hz, hi, _ => by
    rw [f_X2_find_2]
    simp (disch := omega) only [↓reduceIte, gd_t, bd_s, nm_W, nm_I, I_add, I_sub, I_mul, I_neg, I_le_t, I_le_f, I_lt_t, I_lt_f, I_eq_t, I_eq_f, I_inb', I_ix', Int.toNat_natCast, decide_true, decide_false, Bool.not_false, Bool.not_true, if_true, if_false, wi_eq, wi_eq', wi_ne, wi_row, wi_2, N0, N1, N2, N3, N4, N5, N6, N7, N8, N9, N10, N11, N12, N13, N14, N15, N16, N17, N18, N19, N20, N21, N22, N23, N24, N25, N26, N27, N28, N29, N30, N31, N32, N33, N34, N35, N36, N37, N38, N39, N40, N41, N42, N43, N45, N48, N57, N59, N88, N89, N97, N99, N120, N121, N122, N179, N200, N255, N300, N400, N880, N900, N999, N1019, N50000000, N100000000, N1000000000, N2147483647, N2147483648, h, fi, fo]
  | r + 1, i, n + 1, z, hz, hi, hn => by
    subst hz
    have ih := c_find (x1 := x1) (x2 := x2) hc h r (i + 1) n ((i : Int) + 1) (by omega) (by omega) (by omega)
    unfold fi mt
    by_cases c1 : σ.1 (b + 1) i = x1
    · by_cases c2 : σ.1 (b + 2) i = x2
      · rw [if_pos (decide_eq_true ⟨c1, c2⟩), f_X2_find_2]
        simp (disch := omega) only [↓reduceIte, gd_t, bd_s, nm_W, nm_I, I_add, I_sub, I_mul, I_neg, I_le_t, I_le_f, I_lt_t, I_lt_f, I_eq_t, I_eq_f, I_inb', I_ix', Int.toNat_natCast, decide_true, decide_false, Bool.not_false, Bool.not_true, if_true, if_false, wi_eq, wi_eq', wi_ne, wi_row, wi_2, N0, N1, N2, N3, N4, N5, N6, N7, N8, N9, N10, N11, N12, N13, N14, N15, N16, N17, N18, N19, N20, N21, N22, N23, N24, N25, N26, N27, N28, N29, N30, N31, N32, N33, N34, N35, N36, N37, N38, N39, N40, N41, N42, N43, N45, N48, N57, N59, N88, N89, N97, N99, N120, N121, N122, N179, N200, N255, N300, N400, N880, N900, N999, N1019, N50000000, N100000000, N1000000000, N2147483647, N2147483648, h, if_pos c1, if_pos c2]
        rfl
      · rw [if_neg (by rw [decide_eq_true_iff]; exact fun q => c2 q.2), f_X2_find_2]
        simp (disch := omega) only [↓reduceIte, gd_t, bd_s, nm_W, nm_I, I_add, I_sub, I_mul, I_neg, I_le_t, I_le_f, I_lt_t, I_lt_f, I_eq_t, I_eq_f, I_inb', I_ix', Int.toNat_natCast, decide_true, decide_false, Bool.not_false, Bool.not_true, if_true, if_false, wi_eq, wi_eq', wi_ne, wi_row, wi_2, N0, N1, N2, N3, N4, N5, N6, N7, N8, N9, N10, N11, N12, N13, N14, N15, N16, N17, N18, N19, N20, N21, N22, N23, N24, N25, N26, N27, N28, N29, N30, N31, N32, N33, N34, N35, N36, N37, N38, N39, N40, N41, N42, N43, N45, N48, N57, N59, N88, N89, N97, N99, N120, N121, N122, N179, N200, N255, N300, N400, N880, N900, N999, N1019, N50000000, N100000000, N1000000000, N2147483647, N2147483648, h, if_pos c1, if_neg c2, f_X2_find_32]
        exact ih
    · rw [if_neg (by rw [decide_eq_true_iff]; exact fun q => c1 q.1), f_X2_find_2]
      simp (disch := omega) only [↓reduceIte, gd_t, bd_s, nm_W, nm_I, I_add, I_sub, I_mul, I_neg, I_le_t, I_le_f, I_lt_t, I_lt_f, I_eq_t, I_eq_f, I_inb', I_ix', Int.toNat_natCast, decide_true, decide_false, Bool.not_false, Bool.not_true, if_true, if_false, wi_eq, wi_eq', wi_ne, wi_row, wi_2, N0, N1, N2, N3, N4, N5, N6, N7, N8, N9, N10, N11, N12, N13, N14, N15, N16, N17, N18, N19, N20, N21, N22, N23, N24, N25, N26, N27, N28, N29, N30, N31, N32, N33, N34, N35, N36, N37, N38, N39, N40, N41, N42, N43, N45, N48, N57, N59, N88, N89, N97, N99, N120, N121, N122, N179, N200, N255, N300, N400, N880, N900, N999, N1019, N50000000, N100000000, N1000000000, N2147483647, N2147483648, h, if_neg c1, f_X2_find_32]
      exact ih
theorem cFind {b : Nat} {σ : Wd} {c : Nat} {x1 x2 : Int32} (hc : c ≤ 30) (h : σ.1 b 0 = I (c : Int)) : f_X2_find b x1 x2 σ = some (I (fo (fi (mt σ b x1 x2) c 0)), σ) :=
  c_find hc h c 0 FU 0 rfl (by omega) (by show _ < 6000; omega)
theorem php : ∀ (n : Nat) (f : Nat → Nat), (∀ i, i < n + 1 → f i < n) → (∀ i j, i < n + 1 → j < n + 1 → f i = f j → i = j) → False
  | 0, f, h, _ => absurd (h 0 (by omega)) (by omega)
  | n + 1, f, h, hi => by
    refine php n (fun i => if f i = n then f (n + 1) else f i) (fun i h1 => ?_) (fun i j h1 h2 h3 => ?_)
    · show (if f i = n then f (n + 1) else f i) < n
      have b1 := h i (by omega)
      have b2 := h (n + 1) (by omega)
      by_cases c : f i = n
      · rw [if_pos c]
        have : f (n + 1) ≠ n := fun e => by
          have := hi i (n + 1) (by omega) (by omega) (by omega)
          omega
        omega
      · rw [if_neg c]
        omega
    · have h3 : (if f i = n then f (n + 1) else f i) = (if f j = n then f (n + 1) else f j) := h3
      by_cases c1 : f i = n
      · by_cases c2 : f j = n
        · exact hi i j (by omega) (by omega) (by omega)
        · rw [if_pos c1, if_neg c2] at h3
          have := hi (n + 1) j (by omega) (by omega) h3
          omega
      · by_cases c2 : f j = n
        · rw [if_neg c1, if_pos c2] at h3
          have := hi i (n + 1) (by omega) (by omega) h3
          omega
        · rw [if_neg c1, if_neg c2] at h3
          exact hi i j (by omega) (by omega) h3
/-- class ledger at b = run + 9, and the reference's -/
def LR (b : Nat) (σ τ : Wd) (V : Nat) (d : MD) : Prop := ∃ (c : Nat) (sl : Nat → Nat), c ≤ 30 ∧ σ.1 b 0 = I (c : Int) ∧ τ.1 112 88 = I (c : Int)
  ∧ (∀ i, i < c → (sl i / 6 < V ∧ sl i % 6 < d.lv (sl i / 6)) ∧ σ.1 (b + 1) i = I ((sl i / 6 : Nat) : Int) ∧ σ.1 (b + 2) i = I (d.pr (sl i)) ∧ τ.1 112 (89 + 3 * i) = σ.1 (b + 1) i ∧ τ.1 112 (90 + 3 * i) = σ.1 (b + 2) i ∧ τ.1 112 (91 + 3 * i) = σ.1 (b + 3) i)
  ∧ (∀ i j, i < c → j < c → sl i = sl j → i = j)
/-- what the reference's loop does: the first that fits grows, else a new one comes -/
theorem r_notes {b : Nat} {σ τ : Wd} {c : Nat} {x1 x2 x3 : Int32} (hc : c ≤ 30) (h : τ.1 112 88 = I (c : Int)) (he : ∀ i, i < c → τ.1 112 (89 + 3 * i) = σ.1 (b + 1) i ∧ τ.1 112 (90 + 3 * i) = σ.1 (b + 2) i) :
    ∀ (r i n : Nat) (z y : Int), z = (i : Int) → y = 89 + 3 * (i : Int) → i + r = c → r < n → (fi (mt σ b x1 x2) r i = none → c < 30) →
      f_X7_notes_7 n x1 x2 x3 (I y) (I z) τ = match fi (mt σ b x1 x2) r i with
        | some j => some (0, wi τ 112 (91 + 3 * j) (τ.1 112 (91 + 3 * j) + x3))
        | none => some (0, wi (wi (wi (wi τ 112 (89 + 3 * c) x1) 112 (90 + 3 * c) x2) 112 (91 + 3 * c) x3) 112 88 (I ((c : Int) + 1)))
  | 0, i, n + 1, z, y, hz, hy, hi, _, hf => by
    have c30 := hf rfl
    have e88 : Int.toNat 88 = 88 := rfl
    have t1 : y.toNat = 89 + 3 * c := by omega
    have t2 : (y + 1).toNat = 90 + 3 * c := by omega
    have t3 : (y + 2).toNat = 91 + 3 * c := by omega
    unfold fi
    rw [f_X7_notes_7]
    simp (disch := omega) only [↓reduceIte, gd_t, bd_s, nm_W, nm_I, I_add, I_sub, I_mul, I_neg, I_le_t, I_le_f, I_lt_t, I_lt_f, I_eq_t, I_eq_f, I_inb', I_ix', Int.toNat_natCast, decide_true, decide_false, Bool.not_false, Bool.not_true, if_true, if_false, wi_eq, wi_eq', wi_ne, wi_row, wi_2, N0, N1, N2, N3, N4, N5, N6, N7, N8, N9, N10, N11, N12, N13, N14, N15, N16, N17, N18, N19, N20, N21, N22, N23, N24, N25, N26, N27, N28, N29, N30, N31, N32, N33, N34, N35, N36, N37, N38, N39, N40, N41, N42, N43, N45, N48, N57, N59, N88, N89, N97, N99, N120, N121, N122, N179, N200, N255, N300, N400, N880, N900, N999, N1019, N50000000, N100000000, N1000000000, N2147483647, N2147483648, e88, h, t1, t2, t3]
  | r + 1, i, n + 1, z, y, hz, hy, hi, hn, hf => by
    subst hz
    have e88 : Int.toNat 88 = 88 := rfl
    have t1 : y.toNat = 89 + 3 * i := by omega
    have t2 : (y + 1).toNat = 90 + 3 * i := by omega
    have t3 : (y + 2).toNat = 91 + 3 * i := by omega
    obtain ⟨e1, e2⟩ := he i (by omega)
    have ef : fi (mt σ b x1 x2) (r + 1) i = if mt σ b x1 x2 i then some i else fi (mt σ b x1 x2) r (i + 1) := rfl
    by_cases c1 : σ.1 (b + 1) i = x1
    · by_cases c2 : σ.1 (b + 2) i = x2
      · have em : mt σ b x1 x2 i = true := decide_eq_true ⟨c1, c2⟩
        rw [em, if_pos rfl] at ef
        rw [ef, f_X7_notes_7]
        simp (disch := omega) only [↓reduceIte, gd_t, bd_s, nm_W, nm_I, I_add, I_sub, I_mul, I_neg, I_le_t, I_le_f, I_lt_t, I_lt_f, I_eq_t, I_eq_f, I_inb', I_ix', Int.toNat_natCast, decide_true, decide_false, Bool.not_false, Bool.not_true, if_true, if_false, wi_eq, wi_eq', wi_ne, wi_row, wi_2, N0, N1, N2, N3, N4, N5, N6, N7, N8, N9, N10, N11, N12, N13, N14, N15, N16, N17, N18, N19, N20, N21, N22, N23, N24, N25, N26, N27, N28, N29, N30, N31, N32, N33, N34, N35, N36, N37, N38, N39, N40, N41, N42, N43, N45, N48, N57, N59, N88, N89, N97, N99, N120, N121, N122, N179, N200, N255, N300, N400, N880, N900, N999, N1019, N50000000, N100000000, N1000000000, N2147483647, N2147483648, e88, h, t1, t2, t3, e1, e2, if_pos c1, if_pos c2]
      · have em : mt σ b x1 x2 i = false := decide_eq_false (fun q => c2 q.2)
        rw [em, if_neg (show ¬ false = true by decide)] at ef
        rw [ef] at hf ⊢
        rw [← r_notes (x3 := x3) hc h he r (i + 1) n ((i : Int) + 1) (y + 3) (by omega) (by omega) (by omega) (by omega) hf, f_X7_notes_7]
        simp (disch := omega) only [↓reduceIte, gd_t, bd_s, nm_W, nm_I, I_add, I_sub, I_mul, I_neg, I_le_t, I_le_f, I_lt_t, I_lt_f, I_eq_t, I_eq_f, I_inb', I_ix', Int.toNat_natCast, decide_true, decide_false, Bool.not_false, Bool.not_true, if_true, if_false, wi_eq, wi_eq', wi_ne, wi_row, wi_2, N0, N1, N2, N3, N4, N5, N6, N7, N8, N9, N10, N11, N12, N13, N14, N15, N16, N17, N18, N19, N20, N21, N22, N23, N24, N25, N26, N27, N28, N29, N30, N31, N32, N33, N34, N35, N36, N37, N38, N39, N40, N41, N42, N43, N45, N48, N57, N59, N88, N89, N97, N99, N120, N121, N122, N179, N200, N255, N300, N400, N880, N900, N999, N1019, N50000000, N100000000, N1000000000, N2147483647, N2147483648, e88, h, t1, t2, e1, e2, if_pos c1, if_neg c2, f_X7_notes_60]
    · have em : mt σ b x1 x2 i = false := decide_eq_false (fun q => c1 q.1)
      rw [em, if_neg (show ¬ false = true by decide)] at ef
      rw [ef] at hf ⊢
      rw [← r_notes (x3 := x3) hc h he r (i + 1) n ((i : Int) + 1) (y + 3) (by omega) (by omega) (by omega) (by omega) hf, f_X7_notes_7]
      simp (disch := omega) only [↓reduceIte, gd_t, bd_s, nm_W, nm_I, I_add, I_sub, I_mul, I_neg, I_le_t, I_le_f, I_lt_t, I_lt_f, I_eq_t, I_eq_f, I_inb', I_ix', Int.toNat_natCast, decide_true, decide_false, Bool.not_false, Bool.not_true, if_true, if_false, wi_eq, wi_eq', wi_ne, wi_row, wi_2, N0, N1, N2, N3, N4, N5, N6, N7, N8, N9, N10, N11, N12, N13, N14, N15, N16, N17, N18, N19, N20, N21, N22, N23, N24, N25, N26, N27, N28, N29, N30, N31, N32, N33, N34, N35, N36, N37, N38, N39, N40, N41, N42, N43, N45, N48, N57, N59, N88, N89, N97, N99, N120, N121, N122, N179, N200, N255, N300, N400, N880, N900, N999, N1019, N50000000, N100000000, N1000000000, N2147483647, N2147483648, e88, h, t1, t2, e1, e2, if_neg c1, f_X7_notes_60]
theorem note_ok {b : Nat} {σ τ : Wd} {V v k : Nat} {d : MD} {x3 : Int32} (hd : MDok d V) (hv : v < V) (hk : k < d.lv v) (h : LR b σ τ V d) :
    ∃ σ' τ', f_X2_note b (I (v : Int)) (I (d.pr (6 * v + k))) x3 σ = some (0, σ') ∧ f_X7_notes (I (v : Int)) (I (d.pr (6 * v + k))) x3 τ = some (0, τ') ∧ LR b σ' τ' V d
      ∧ (∀ k, k < b ∨ b + 3 < k → σ'.1 k = σ.1 k) ∧ σ'.2 = σ.2 ∧ (∀ k, k ≠ 112 → τ'.1 k = τ.1 k) ∧ (∀ i, i < 88 → τ'.1 112 i = τ.1 112 i) ∧ τ'.2 = τ.2 := by
  obtain ⟨c, sl, hc, h1, h2, h3, h4⟩ := h
  have h5 := hd.1
  obtain ⟨-, -, -, -, l6, -⟩ := hd.2 v hv
  have ef := cFind (x1 := I (v : Int)) (x2 := I (d.pr (6 * v + k))) hc h1
  have he : ∀ i, i < c → τ.1 112 (89 + 3 * i) = σ.1 (b + 1) i ∧ τ.1 112 (90 + 3 * i) = σ.1 (b + 2) i := fun i hi => ⟨(h3 i hi).2.2.2.1, (h3 i hi).2.2.2.2.1⟩
  have hn30 : fi (mt σ b (I (v : Int)) (I (d.pr (6 * v + k)))) c 0 = none → c < 30 := by
    intro hn
    by_cases c30 : c < 30
    · exact c30
    · exfalso
      have c30 : c = 30 := by omega
      subst c30
      refine php 30 (fun i => if i < 30 then sl i else 6 * v + k) (fun i hi => ?_) (fun i j hi hj he => ?_)
      · show (if i < 30 then sl i else 6 * v + k) < 30
        split
        · rename_i q
          obtain ⟨⟨a1, a2⟩, -⟩ := h3 i q
          obtain ⟨-, -, -, -, l6', -⟩ := hd.2 (sl i / 6) a1
          omega
        · omega
      · have he : (if i < 30 then sl i else 6 * v + k) = (if j < 30 then sl j else 6 * v + k) := he
        have no : ∀ i, i < 30 → sl i ≠ 6 * v + k := by
          intro i q e
          have m := fi_none 30 0 hn i (by omega) (by omega)
          obtain ⟨-, a3, a4, -⟩ := h3 i q
          have : mt σ b (I (v : Int)) (I (d.pr (6 * v + k))) i = true := decide_eq_true ⟨by rw [a3, e, show (6 * v + k) / 6 = v from by omega], by rw [a4, e]⟩
          rw [this] at m
          cases m
        by_cases q1 : i < 30
        · by_cases q2 : j < 30
          · rw [if_pos q1, if_pos q2] at he
            exact h4 i j q1 q2 he
          · rw [if_pos q1, if_neg q2] at he
            exact absurd he (no i q1)
        · by_cases q2 : j < 30
          · rw [if_neg q1, if_pos q2] at he
            exact absurd he.symm (no j q2)
          · omega
  have er := r_notes (x3 := x3) hc h2 he c 0 FU 0 89 rfl (by omega) (by omega) (by show _ < 6000; omega) hn30
  have er : f_X7_notes (I (v : Int)) (I (d.pr (6 * v + k))) x3 τ = _ := er
  cases hf : fi (mt σ b (I (v : Int)) (I (d.pr (6 * v + k)))) c 0 with
  | some j =>
    obtain ⟨-, j2, j3⟩ := fi_some c 0 hf
    rw [hf] at ef er
    refine ⟨wi σ (b + 3) j (σ.1 (b + 3) j + x3), wi τ 112 (91 + 3 * j) (τ.1 112 (91 + 3 * j) + x3), ?_, er, ⟨c, sl, hc, ?_, ?_, fun i hi => ?_, h4⟩, fun k hk => wi_row (by omega), wi_2, fun k hk => wi_row hk, fun i hi => wi_ne (by omega), wi_2⟩
    · unfold f_X2_note
      simp (disch := omega) only [↓reduceIte, gd_t, bd_s, nm_W, nm_I, I_add, I_sub, I_mul, I_neg, I_le_t, I_le_f, I_lt_t, I_lt_f, I_eq_t, I_eq_f, I_inb', I_ix', Int.toNat_natCast, decide_true, decide_false, Bool.not_false, Bool.not_true, if_true, if_false, wi_eq, wi_eq', wi_ne, wi_row, wi_2, N0, N1, N2, N3, N4, N5, N6, N7, N8, N9, N10, N11, N12, N13, N14, N15, N16, N17, N18, N19, N20, N21, N22, N23, N24, N25, N26, N27, N28, N29, N30, N31, N32, N33, N34, N35, N36, N37, N38, N39, N40, N41, N42, N43, N45, N48, N57, N59, N88, N89, N97, N99, N120, N121, N122, N179, N200, N255, N300, N400, N880, N900, N999, N1019, N50000000, N100000000, N1000000000, N2147483647, N2147483648, ef, fo, f_X2_note_77]
    · rw [wi_row (by omega)]; exact h1
    · rw [wi_ne (by omega)]; exact h2
    · obtain ⟨a1, a2, a3, a4, a5, a6⟩ := h3 i hi
      rw [wi_row (show b + 1 ≠ b + 3 by omega), wi_row (show b + 2 ≠ b + 3 by omega), wi_ne (show 89 + 3 * i ≠ 91 + 3 * j by omega), wi_ne (show 90 + 3 * i ≠ 91 + 3 * j by omega)]
      refine ⟨a1, a2, a3, a4, a5, ?_⟩
      by_cases e : i = j
      · subst e
        rw [wi_eq, wi_eq, a6]
      · rw [wi_ne (by omega), wi_ne e, a6]
  | none =>
    have c30 := hn30 hf
    rw [hf] at ef er
    refine ⟨wi (wi (wi (wi σ (b + 1) c (I (v : Int))) (b + 2) c (I (d.pr (6 * v + k)))) (b + 3) c x3) b 0 (I ((c : Int) + 1)), _, ?_, er, ⟨c + 1, fun i => if i = c then 6 * v + k else sl i, by omega, ?_, ?_, fun i hi => ?_, fun i j hi hj he => ?_⟩, fun k hk => ?_, ?_, fun k hk => ?_, fun i hi => ?_, ?_⟩
    · unfold f_X2_note
      simp (disch := omega) only [↓reduceIte, gd_t, bd_s, nm_W, nm_I, I_add, I_sub, I_mul, I_neg, I_le_t, I_le_f, I_lt_t, I_lt_f, I_eq_t, I_eq_f, I_inb', I_ix', Int.toNat_natCast, decide_true, decide_false, Bool.not_false, Bool.not_true, if_true, if_false, wi_eq, wi_eq', wi_ne, wi_row, wi_2, N0, N1, N2, N3, N4, N5, N6, N7, N8, N9, N10, N11, N12, N13, N14, N15, N16, N17, N18, N19, N20, N21, N22, N23, N24, N25, N26, N27, N28, N29, N30, N31, N32, N33, N34, N35, N36, N37, N38, N39, N40, N41, N42, N43, N45, N48, N57, N59, N88, N89, N97, N99, N120, N121, N122, N179, N200, N255, N300, N400, N880, N900, N999, N1019, N50000000, N100000000, N1000000000, N2147483647, N2147483648, ef, fo, h1, f_X2_note_77]
    · rw [wi_eq]; rfl
    · rw [wi_eq]; rfl
    · by_cases e : i = c
      · have hs : (fun i => if i = c then 6 * v + k else sl i) i = 6 * v + k := if_pos e
        rw [hs, show (6 * v + k) / 6 = v from by omega, show (6 * v + k) % 6 = k from by omega]
        refine ⟨⟨hv, hk⟩, ?_, ?_, ?_, ?_, ?_⟩ <;> simp (disch := omega) only [wi_eq, wi_eq', wi_ne, wi_row, wi_2]
      · obtain ⟨a1, a2, a3, a4, a5, a6⟩ := h3 i (by omega)
        have hs : (fun i => if i = c then 6 * v + k else sl i) i = sl i := if_neg e
        rw [hs]
        refine ⟨a1, ?_, ?_, ?_, ?_, ?_⟩
        · simp (disch := omega) only [wi_eq, wi_eq', wi_ne, wi_row, wi_2]
          exact a2
        · simp (disch := omega) only [wi_eq, wi_eq', wi_ne, wi_row, wi_2]
          exact a3
        · simp (disch := omega) only [wi_eq, wi_eq', wi_ne, wi_row, wi_2]
          exact a4
        · simp (disch := omega) only [wi_eq, wi_eq', wi_ne, wi_row, wi_2]
          exact a5
        · simp (disch := omega) only [wi_eq, wi_eq', wi_ne, wi_row, wi_2]
          exact a6
    · have he : (if i = c then 6 * v + k else sl i) = (if j = c then 6 * v + k else sl j) := he
      have no : ∀ i, i < c → sl i ≠ 6 * v + k := by
        intro i q e
        have m := fi_none c 0 hf i (by omega) (by omega)
        obtain ⟨-, a3, a4, -⟩ := h3 i q
        have : mt σ b (I (v : Int)) (I (d.pr (6 * v + k))) i = true := decide_eq_true ⟨by rw [a3, e, show (6 * v + k) / 6 = v from by omega], by rw [a4, e]⟩
        rw [this] at m
        cases m
      by_cases q1 : i = c
      · by_cases q2 : j = c
        · omega
        · rw [if_pos q1, if_neg q2] at he
          exact absurd he.symm (no j (by omega))
      · by_cases q2 : j = c
        · rw [if_neg q1, if_pos q2] at he
          exact absurd he (no i (by omega))
        · rw [if_neg q1, if_neg q2] at he
          exact h4 i j (by omega) (by omega) he
    · rw [wi_row (by omega), wi_row (by omega), wi_row (by omega), wi_row (by omega)]
    · rw [wi_2, wi_2, wi_2, wi_2]
    · rw [wi_row hk, wi_row hk, wi_row hk, wi_row hk]
    · rw [wi_ne (by omega), wi_ne (by omega), wi_ne (by omega), wi_ne (by omega)]
    · rw [wi_2, wi_2, wi_2, wi_2]
end
section
/-! PURE: caps; is there a lot; is anything under way -/
def cp (pr sz : Nat → Int) : Nat → Nat → Int → Int → Int
  | 0, _, _, c => c
  | r + 1, i, left, c => if left ≤ 0 then c else if sz i ≤ 0 then cp pr sz r (i + 1) left c else cp pr sz r (i + 1) (left - sz i) (pr i)
def cap (d : MD) (v : Nat) (n : Int) : Int := cp d.pr d.sz (d.lv v) (6 * v) n 0
theorem cp_b {pr sz : Nat → Int} : ∀ (r i : Nat) (left c : Int), lvOk pr sz r i → 0 ≤ c → c ≤ 999 → 0 ≤ cp pr sz r i left c ∧ cp pr sz r i left c ≤ 999
  | 0, _, _, _, _, h1, h2 => ⟨h1, h2⟩
  | r + 1, i, left, c, hk, h1, h2 => by
    obtain ⟨s1, s2, p1, p2⟩ := hk i (by omega) (by omega)
    have hk' : lvOk pr sz r (i + 1) := fun j q1 q2 => hk j (by omega) (by omega)
    unfold cp
    split
    · exact ⟨h1, h2⟩
    · split
      · exact cp_b r (i + 1) _ _ hk' h1 h2
      · exact cp_b r (i + 1) _ _ hk' (by omega) p2
theorem cap_b {d : MD} {V v : Nat} {n : Int} (hd : MDok d V) (hv : v < V) : 0 ≤ cap d v n ∧ cap d v n ≤ 999 := cp_b _ _ _ _ (hd.2 v hv).2.2.2.2.2 (by omega) (by omega)
theorem c_cap {m : Nat} {σ : Wd} {V v : Nat} {d : MD} (h : CV m σ V d) (hd : MDok d V) (hv : v < V) :
    ∀ (r k n : Nat) (left c z : Int), z = 6 * (v : Int) + (k : Int) → k + r = d.lv v → r < n → -1000 ≤ left → left ≤ 1000 →
      f_X3_capOf_15 m n (I (v : Int)) (I c) (I left) (I (6 * (v : Int))) (I z) σ = some (I (cp d.pr d.sz r (6 * v + k) left c), σ)
  | 0, k, n + 1, left, c, z, hz, hk, _, l1, l2 => by
    have v5 : v < 5 := Nat.lt_of_lt_of_le hv hd.1
    obtain ⟨-, -, -, -, f, -⟩ := hd.2 v hv
    have e1 := (h.2 v hv).2.2.2.2.1
    rw [f_X3_capOf_15]
    simp (disch := omega) only [↓reduceIte, gd_t, bd_s, nm_W, nm_I, I_add, I_sub, I_mul, I_neg, I_le_t, I_le_f, I_lt_t, I_lt_f, I_eq_t, I_eq_f, I_inb', I_ix', Int.toNat_natCast, decide_true, decide_false, Bool.not_false, Bool.not_true, if_true, if_false, wi_eq, wi_eq', wi_ne, wi_row, wi_2, N0, N1, N2, N3, N4, N5, N6, N7, N8, N9, N10, N11, N12, N13, N14, N15, N16, N17, N18, N19, N20, N21, N22, N23, N24, N25, N26, N27, N28, N29, N30, N31, N32, N33, N34, N35, N36, N37, N38, N39, N40, N41, N42, N43, N45, N48, N57, N59, N88, N89, N97, N99, N120, N121, N122, N179, N200, N255, N300, N400, N880, N900, N999, N1019, N50000000, N100000000, N1000000000, N2147483647, N2147483648, e1, f_X3_capOf_70, cp]
  | r + 1, k, n + 1, left, c, z, hz, hk, hn, l1, l2 => by
    have v5 : v < 5 := Nat.lt_of_lt_of_le hv hd.1
    obtain ⟨-, -, -, -, f, -⟩ := hd.2 v hv
    have e1 := (h.2 v hv).2.2.2.2.1
    obtain ⟨e2, e3⟩ := (h.2 v hv).2.2.2.2.2 k (by omega)
    obtain ⟨s1, s2, p1, p2⟩ := lvOk_at hd hv (show k < d.lv v by omega)
    have tz : z.toNat = 6 * v + k := by omega
    have ih := fun left c h1 h2 => c_cap h hd hv r (k + 1) n left c (z + 1) (by omega) (by omega) (by omega) h1 h2
    rw [show 6 * v + (k + 1) = 6 * v + k + 1 from rfl] at ih
    rw [cp]
    by_cases c1 : left ≤ 0
    · rw [if_pos c1, f_X3_capOf_15]
      simp (disch := omega) only [↓reduceIte, gd_t, bd_s, nm_W, nm_I, I_add, I_sub, I_mul, I_neg, I_le_t, I_le_f, I_lt_t, I_lt_f, I_eq_t, I_eq_f, I_inb', I_ix', Int.toNat_natCast, decide_true, decide_false, Bool.not_false, Bool.not_true, if_true, if_false, wi_eq, wi_eq', wi_ne, wi_row, wi_2, N0, N1, N2, N3, N4, N5, N6, N7, N8, N9, N10, N11, N12, N13, N14, N15, N16, N17, N18, N19, N20, N21, N22, N23, N24, N25, N26, N27, N28, N29, N30, N31, N32, N33, N34, N35, N36, N37, N38, N39, N40, N41, N42, N43, N45, N48, N57, N59, N88, N89, N97, N99, N120, N121, N122, N179, N200, N255, N300, N400, N880, N900, N999, N1019, N50000000, N100000000, N1000000000, N2147483647, N2147483648, e1, f_X3_capOf_70]
    · rw [if_neg c1]
      by_cases c2 : d.sz (6 * v + k) ≤ 0
      · rw [if_pos c2, f_X3_capOf_15]
        simp (disch := omega) only [↓reduceIte, gd_t, bd_s, nm_W, nm_I, I_add, I_sub, I_mul, I_neg, I_le_t, I_le_f, I_lt_t, I_lt_f, I_eq_t, I_eq_f, I_inb', I_ix', Int.toNat_natCast, decide_true, decide_false, Bool.not_false, Bool.not_true, if_true, if_false, wi_eq, wi_eq', wi_ne, wi_row, wi_2, N0, N1, N2, N3, N4, N5, N6, N7, N8, N9, N10, N11, N12, N13, N14, N15, N16, N17, N18, N19, N20, N21, N22, N23, N24, N25, N26, N27, N28, N29, N30, N31, N32, N33, N34, N35, N36, N37, N38, N39, N40, N41, N42, N43, N45, N48, N57, N59, N88, N89, N97, N99, N120, N121, N122, N179, N200, N255, N300, N400, N880, N900, N999, N1019, N50000000, N100000000, N1000000000, N2147483647, N2147483648, e1, tz, e3, f_X3_capOf_64]
        exact ih left c l1 l2
      · rw [if_neg c2, f_X3_capOf_15]
        simp (disch := omega) only [↓reduceIte, gd_t, bd_s, nm_W, nm_I, I_add, I_sub, I_mul, I_neg, I_le_t, I_le_f, I_lt_t, I_lt_f, I_eq_t, I_eq_f, I_inb', I_ix', Int.toNat_natCast, decide_true, decide_false, Bool.not_false, Bool.not_true, if_true, if_false, wi_eq, wi_eq', wi_ne, wi_row, wi_2, N0, N1, N2, N3, N4, N5, N6, N7, N8, N9, N10, N11, N12, N13, N14, N15, N16, N17, N18, N19, N20, N21, N22, N23, N24, N25, N26, N27, N28, N29, N30, N31, N32, N33, N34, N35, N36, N37, N38, N39, N40, N41, N42, N43, N45, N48, N57, N59, N88, N89, N97, N99, N120, N121, N122, N179, N200, N255, N300, N400, N880, N900, N999, N1019, N50000000, N100000000, N1000000000, N2147483647, N2147483648, e1, tz, e2, e3, f_X3_capOf_64]
        exact ih _ _ (by omega) (by omega)
theorem cCap {m : Nat} {σ : Wd} {V v : Nat} {d : MD} {n : Int} (h : CV m σ V d) (hd : MDok d V) (hv : v < V) (n1 : 0 ≤ n) (n2 : n ≤ 1000) : f_X3_capOf m (I (v : Int)) (I n) σ = some (I (cap d v n), σ) := by
  obtain ⟨-, -, -, -, f, -⟩ := hd.2 v hv
  have e := c_cap h hd hv (d.lv v) 0 FU n 0 (6 * (v : Int)) (by omega) (by omega) (by show _ < 6000; omega) (by omega) n2
  unfold f_X3_capOf
  simp (disch := omega) only [↓reduceIte, gd_t, bd_s, nm_W, nm_I, I_add, I_sub, I_mul, I_neg, I_le_t, I_le_f, I_lt_t, I_lt_f, I_eq_t, I_eq_f, I_inb', I_ix', Int.toNat_natCast, decide_true, decide_false, Bool.not_false, Bool.not_true, if_true, if_false, wi_eq, wi_eq', wi_ne, wi_row, wi_2, N0, N1, N2, N3, N4, N5, N6, N7, N8, N9, N10, N11, N12, N13, N14, N15, N16, N17, N18, N19, N20, N21, N22, N23, N24, N25, N26, N27, N28, N29, N30, N31, N32, N33, N34, N35, N36, N37, N38, N39, N40, N41, N42, N43, N45, N48, N57, N59, N88, N89, N97, N99, N120, N121, N122, N179, N200, N255, N300, N400, N880, N900, N999, N1019, N50000000, N100000000, N1000000000, N2147483647, N2147483648]
  rw [Int.mul_comm]
  exact e
theorem r_cap {σ : Wd} {V v : Nat} {d : MD} (h : RV σ V d) (hd : MDok d V) (hv : v < V) :
    ∀ (r k n : Nat) (left c z : Int), z = (k : Int) → k + r = d.lv v → r < n → -1000 ≤ left → left ≤ 1000 →
      f_X7_capOf_8 n (I (v : Int)) (I left) (I c) (I z) σ = some (I (cp d.pr d.sz r (6 * v + k) left c), σ)
  | 0, k, n + 1, left, c, z, hz, hk, _, l1, l2 => by
    have v5 : v < 5 := Nat.lt_of_lt_of_le hv hd.1
    obtain ⟨-, -, -, -, f, -⟩ := hd.2 v hv
    have e1 := (h.2 v hv).2.2.2.2.1
    rw [f_X7_capOf_8]
    simp (disch := omega) only [↓reduceIte, gd_t, bd_s, nm_W, nm_I, I_add, I_sub, I_mul, I_neg, I_le_t, I_le_f, I_lt_t, I_lt_f, I_eq_t, I_eq_f, I_inb', I_ix', Int.toNat_natCast, decide_true, decide_false, Bool.not_false, Bool.not_true, if_true, if_false, wi_eq, wi_eq', wi_ne, wi_row, wi_2, N0, N1, N2, N3, N4, N5, N6, N7, N8, N9, N10, N11, N12, N13, N14, N15, N16, N17, N18, N19, N20, N21, N22, N23, N24, N25, N26, N27, N28, N29, N30, N31, N32, N33, N34, N35, N36, N37, N38, N39, N40, N41, N42, N43, N45, N48, N57, N59, N88, N89, N97, N99, N120, N121, N122, N179, N200, N255, N300, N400, N880, N900, N999, N1019, N50000000, N100000000, N1000000000, N2147483647, N2147483648, levels7 (σ := σ) v5, e1, f_X7_capOf_60, cp]
  | r + 1, k, n + 1, left, c, z, hz, hk, hn, l1, l2 => by
    subst hz
    have v5 : v < 5 := Nat.lt_of_lt_of_le hv hd.1
    obtain ⟨-, -, -, -, f, -⟩ := hd.2 v hv
    have e1 := (h.2 v hv).2.2.2.2.1
    obtain ⟨e2, e3⟩ := (h.2 v hv).2.2.2.2.2 k (by omega)
    obtain ⟨s1, s2, p1, p2⟩ := lvOk_at hd hv (show k < d.lv v by omega)
    have p7 := price7 (σ := σ) v5 (show k < 6 by omega)
    have s7 := size7 (σ := σ) v5 (show k < 6 by omega)
    rw [e2] at p7
    rw [e3] at s7
    have ih := fun left c h1 h2 => r_cap h hd hv r (k + 1) n left c ((k : Int) + 1) (by omega) (by omega) (by omega) h1 h2
    rw [show 6 * v + (k + 1) = 6 * v + k + 1 from rfl] at ih
    rw [cp]
    by_cases c1 : left ≤ 0
    · rw [if_pos c1, f_X7_capOf_8]
      simp (disch := omega) only [↓reduceIte, gd_t, bd_s, nm_W, nm_I, I_add, I_sub, I_mul, I_neg, I_le_t, I_le_f, I_lt_t, I_lt_f, I_eq_t, I_eq_f, I_inb', I_ix', Int.toNat_natCast, decide_true, decide_false, Bool.not_false, Bool.not_true, if_true, if_false, wi_eq, wi_eq', wi_ne, wi_row, wi_2, N0, N1, N2, N3, N4, N5, N6, N7, N8, N9, N10, N11, N12, N13, N14, N15, N16, N17, N18, N19, N20, N21, N22, N23, N24, N25, N26, N27, N28, N29, N30, N31, N32, N33, N34, N35, N36, N37, N38, N39, N40, N41, N42, N43, N45, N48, N57, N59, N88, N89, N97, N99, N120, N121, N122, N179, N200, N255, N300, N400, N880, N900, N999, N1019, N50000000, N100000000, N1000000000, N2147483647, N2147483648, levels7 (σ := σ) v5, e1, f_X7_capOf_60]
    · rw [if_neg c1]
      by_cases c2 : d.sz (6 * v + k) ≤ 0
      · rw [if_pos c2, f_X7_capOf_8]
        simp (disch := omega) only [↓reduceIte, gd_t, bd_s, nm_W, nm_I, I_add, I_sub, I_mul, I_neg, I_le_t, I_le_f, I_lt_t, I_lt_f, I_eq_t, I_eq_f, I_inb', I_ix', Int.toNat_natCast, decide_true, decide_false, Bool.not_false, Bool.not_true, if_true, if_false, wi_eq, wi_eq', wi_ne, wi_row, wi_2, N0, N1, N2, N3, N4, N5, N6, N7, N8, N9, N10, N11, N12, N13, N14, N15, N16, N17, N18, N19, N20, N21, N22, N23, N24, N25, N26, N27, N28, N29, N30, N31, N32, N33, N34, N35, N36, N37, N38, N39, N40, N41, N42, N43, N45, N48, N57, N59, N88, N89, N97, N99, N120, N121, N122, N179, N200, N255, N300, N400, N880, N900, N999, N1019, N50000000, N100000000, N1000000000, N2147483647, N2147483648, levels7 (σ := σ) v5, e1, s7, f_X7_capOf_54]
        exact ih left c l1 l2
      · rw [if_neg c2, f_X7_capOf_8]
        simp (disch := omega) only [↓reduceIte, gd_t, bd_s, nm_W, nm_I, I_add, I_sub, I_mul, I_neg, I_le_t, I_le_f, I_lt_t, I_lt_f, I_eq_t, I_eq_f, I_inb', I_ix', Int.toNat_natCast, decide_true, decide_false, Bool.not_false, Bool.not_true, if_true, if_false, wi_eq, wi_eq', wi_ne, wi_row, wi_2, N0, N1, N2, N3, N4, N5, N6, N7, N8, N9, N10, N11, N12, N13, N14, N15, N16, N17, N18, N19, N20, N21, N22, N23, N24, N25, N26, N27, N28, N29, N30, N31, N32, N33, N34, N35, N36, N37, N38, N39, N40, N41, N42, N43, N45, N48, N57, N59, N88, N89, N97, N99, N120, N121, N122, N179, N200, N255, N300, N400, N880, N900, N999, N1019, N50000000, N100000000, N1000000000, N2147483647, N2147483648, levels7 (σ := σ) v5, e1, s7, p7, f_X7_capOf_54]
        exact ih _ _ (by omega) (by omega)
theorem rCap {σ : Wd} {V v : Nat} {d : MD} {n : Int} (h : RV σ V d) (hd : MDok d V) (hv : v < V) (n1 : 0 ≤ n) (n2 : n ≤ 1000) : f_X7_capOf (I (v : Int)) (I n) σ = some (I (cap d v n), σ) := by
  obtain ⟨-, -, -, -, f, -⟩ := hd.2 v hv
  exact r_cap h hd hv (d.lv v) 0 FU n 0 0 rfl (by omega) (by show _ < 6000; omega) (by omega) n2
/-- is there a lot to be had, q units at most -/
def hw (d : MD) (p : Int) (q : Nat) : Nat → Nat → Bool
  | 0, _ => false
  | r + 1, v => if rm d p (-1) q v = 0 then hw d p q r (v + 1) else true
theorem c_has {m V q : Nat} {p : Int} {d : MD} {σ : Wd} (h : CV m σ V d) (hd : MDok d V) (hp : R p) (hl : σ.1 m 1 = I p) (hq : q ≤ 120) :
    ∀ (r v n : Nat) (z : Int), z = (v : Int) → v + r = V → r < n → f_X3_hasLotWithin_2 m n (I (q : Int)) (I z) σ = some (I (bn (hw d p q r v)), σ)
  | 0, v, n + 1, z, hz, hv, _ => by
    have h5 := hd.1
    rw [f_X3_hasLotWithin_2]
    simp (disch := omega) only [↓reduceIte, gd_t, bd_s, nm_W, nm_I, I_add, I_sub, I_mul, I_neg, I_le_t, I_le_f, I_lt_t, I_lt_f, I_eq_t, I_eq_f, I_inb', I_ix', Int.toNat_natCast, decide_true, decide_false, Bool.not_false, Bool.not_true, if_true, if_false, wi_eq, wi_eq', wi_ne, wi_row, wi_2, N0, N1, N2, N3, N4, N5, N6, N7, N8, N9, N10, N11, N12, N13, N14, N15, N16, N17, N18, N19, N20, N21, N22, N23, N24, N25, N26, N27, N28, N29, N30, N31, N32, N33, N34, N35, N36, N37, N38, N39, N40, N41, N42, N43, N45, N48, N57, N59, N88, N89, N97, N99, N120, N121, N122, N179, N200, N255, N300, N400, N880, N900, N999, N1019, N50000000, N100000000, N1000000000, N2147483647, N2147483648, h.1, hw, bn_f, isb_0]
  | r + 1, v, n + 1, z, hz, hv, hn => by
    subst hz
    have h5 := hd.1
    have hvV : v < V := by omega
    have rb := rm_le (p := p) (but := -1) (q := q) hd hvV
    have er := kx_whl (u := q) (p := p) (but := -1) hd hvV
    rw [if_neg (by omega)] at er
    have e2 := cWhole h hd hvV hp hl (q := (q : Int)) (by omega) (by omega)
    rw [er, show kx d p (-1) v q * (d.lo v).toNat = rm d p (-1) q v from rfl] at e2
    rw [hw]
    by_cases c : rm d p (-1) q v = 0
    · rw [if_pos c, f_X3_hasLotWithin_2]
      simp (disch := omega) only [↓reduceIte, gd_t, bd_s, nm_W, nm_I, I_add, I_sub, I_mul, I_neg, I_le_t, I_le_f, I_lt_t, I_lt_f, I_eq_t, I_eq_f, I_inb', I_ix', Int.toNat_natCast, decide_true, decide_false, Bool.not_false, Bool.not_true, if_true, if_false, wi_eq, wi_eq', wi_ne, wi_row, wi_2, N0, N1, N2, N3, N4, N5, N6, N7, N8, N9, N10, N11, N12, N13, N14, N15, N16, N17, N18, N19, N20, N21, N22, N23, N24, N25, N26, N27, N28, N29, N30, N31, N32, N33, N34, N35, N36, N37, N38, N39, N40, N41, N42, N43, N45, N48, N57, N59, N88, N89, N97, N99, N120, N121, N122, N179, N200, N255, N300, N400, N880, N900, N999, N1019, N50000000, N100000000, N1000000000, N2147483647, N2147483648, h.1, e2]
      exact c_has h hd hp hl hq r (v + 1) n _ (by omega) (by omega) (by omega)
    · rw [if_neg c, f_X3_hasLotWithin_2]
      simp (disch := omega) only [↓reduceIte, gd_t, bd_s, nm_W, nm_I, I_add, I_sub, I_mul, I_neg, I_le_t, I_le_f, I_lt_t, I_lt_f, I_eq_t, I_eq_f, I_inb', I_ix', Int.toNat_natCast, decide_true, decide_false, Bool.not_false, Bool.not_true, if_true, if_false, wi_eq, wi_eq', wi_ne, wi_row, wi_2, N0, N1, N2, N3, N4, N5, N6, N7, N8, N9, N10, N11, N12, N13, N14, N15, N16, N17, N18, N19, N20, N21, N22, N23, N24, N25, N26, N27, N28, N29, N30, N31, N32, N33, N34, N35, N36, N37, N38, N39, N40, N41, N42, N43, N45, N48, N57, N59, N88, N89, N97, N99, N120, N121, N122, N179, N200, N255, N300, N400, N880, N900, N999, N1019, N50000000, N100000000, N1000000000, N2147483647, N2147483648, h.1, e2, bn_t, isb_1]
theorem mnf_ne {f : Nat → Option Int} {K i : Nat} (hi : i ≤ K) (h : f i ≠ none) : mnf f K ≠ none := fun e => h (mnf_no e i hi)
theorem lcs_one {d : MD} {V a : Nat} {p : Int} (hd : MDok d V) (ha : a < V) (hD : d.lo a ≤ dep d p a) : ∀ j, j ≤ V → V - j ≤ a → lcs d p (-1) V j (d.lo a).toNat ≠ none
  | 0, _, h => absurd h (by omega)
  | j + 1, hj, h => by
    obtain ⟨-, lb, -⟩ := hd.2 a ha
    unfold lcs
    by_cases c : V - (j + 1) = a
    · rw [c]
      have k1 : 1 ≤ kx d p (-1) a (d.lo a).toNat := by
        unfold kx
        rw [if_neg (by omega), show min (d.lo a).toNat (dep d p a).toNat = (d.lo a).toNat from by omega, Nat.div_self (by omega)]
        exact Nat.le_refl _
      refine mnf_ne k1 ?_
      show oadd _ (lcs d p (-1) V j ((d.lo a).toNat - 1 * (d.lo a).toNat)) ≠ none
      rw [Nat.one_mul, Nat.sub_self, lcs_0]
      exact fun h => by cases h
    · refine mnf_ne (Nat.zero_le _) ?_
      show oadd _ (lcs d p (-1) V j ((d.lo a).toNat - 0 * (d.lo (V - (j + 1))).toNat)) ≠ none
      rw [Nat.zero_mul, Nat.sub_zero]
      have ih := lcs_one hd ha hD j (by omega) (by omega)
      cases e : lcs d p (-1) V j (d.lo a).toNat with
      | none => exact absurd e ih
      | some y => exact fun h => by cases h
theorem hw_at {d : MD} {p : Int} {q : Nat} : ∀ (r v : Nat), hw d p q r v = true → ∃ a, v ≤ a ∧ a < v + r ∧ rm d p (-1) q a ≠ 0
  | 0, _, h => by cases h
  | r + 1, v, h => by
    unfold hw at h
    by_cases c : rm d p (-1) q v = 0
    · rw [if_pos c] at h
      obtain ⟨a, h1, h2, h3⟩ := hw_at r (v + 1) h
      exact ⟨a, by omega, by omega, h3⟩
    · exact ⟨v, by omega, by omega, c⟩
theorem hw_no {d : MD} {p : Int} {q : Nat} : ∀ (r v : Nat), hw d p q r v = false → srm d p (-1) q r v = 0
  | 0, _, _ => rfl
  | r + 1, v, h => by
    unfold hw at h
    by_cases c : rm d p (-1) q v = 0
    · rw [if_pos c] at h
      unfold srm
      rw [c, hw_no r (v + 1) h]
    · rw [if_neg c] at h
      cases h
theorem hw_bu {d : MD} {V q : Nat} {p : Int} (hd : MDok d V) : hw d p q V 0 = true ↔ 0 < bu (lcs d p (-1) V V) q := by
  constructor
  · intro h
    obtain ⟨a, -, h2, h3⟩ := hw_at V 0 h
    have ha : a < V := by omega
    obtain ⟨-, lb, -⟩ := hd.2 a ha
    have db := dep_bnd (p := p) hd ha
    have l1 : 1 ≤ (d.lo a).toNat := by omega
    have k1 : 1 ≤ kx d p (-1) a q := by
      cases e : kx d p (-1) a q with
      | zero => exact absurd (by unfold rm; rw [e, Nat.zero_mul]) h3
      | succ n => omega
    have k2 : 1 * (d.lo a).toNat ≤ kx d p (-1) a q * (d.lo a).toNat := Nat.mul_le_mul_right _ k1
    have k3 : kx d p (-1) a q * (d.lo a).toNat ≤ min q (dep d p a).toNat := by
      unfold kx
      rw [if_neg (by omega)]
      exact (div_box l1).1
    have := bu_ge (lcs_one (p := p) hd ha (by omega) V (Nat.le_refl _) (by omega)) q (by omega)
    omega
  · intro h
    cases e : hw d p q V 0 with
    | true => rfl
    | false =>
      have s := hw_no V 0 e
      have u := lcs_srm (q := q) (p := p) (but := -1) hd V _ (Nat.le_refl _) (bu_le q) (bu_some (f := lcs d p (-1) V V) (by rw [lcs_0]; exact fun h => by cases h) q)
      rw [Nat.sub_self, s] at u
      omega
theorem cHas {m V q : Nat} {p : Int} {d : MD} {σ : Wd} (h : CV m σ V d) (hd : MDok d V) (hp : R p) (hl : σ.1 m 1 = I p) (hq : q ≤ 120) :
    f_X3_hasLotWithin m (I (q : Int)) σ = some (I (bn (decide (0 < bu (lcs d p (-1) V V) q))), σ) := by
  have h5 := hd.1
  have e := c_has h hd hp hl hq V 0 FU 0 rfl (by omega) (by show _ < 6000; omega)
  have eb : hw d p q V 0 = decide (0 < bu (lcs d p (-1) V V) q) := by
    cases c : hw d p q V 0 with
    | true => rw [decide_eq_true ((hw_bu hd).mp c)]
    | false => rw [decide_eq_false (fun q => by rw [(hw_bu hd).mpr q] at c; cases c)]
  rw [eb] at e
  exact e
/-- is anything under way -/
def nu (f : Nat → Int32) : Nat → Nat → Bool
  | 0, _ => true
  | r + 1, v => if f v = 0 then nu f r (v + 1) else false
theorem c_nu {b m V : Nat} {σ : Wd} (h : σ.1 m 3 = I (V : Int)) (hV : V ≤ 5) :
    ∀ (r v n : Nat) (z : Int), z = (v : Int) → v + r = V → r < n → f_X4_nothingUnderWay_2 b m n (I z) σ = some (I (bn (nu (σ.1 (b + 1)) r v)), σ)
  | 0, v, n + 1, z, hz, hv, _ => by
    rw [f_X4_nothingUnderWay_2]
    simp (disch := omega) only [↓reduceIte, gd_t, bd_s, nm_W, nm_I, I_add, I_sub, I_mul, I_neg, I_le_t, I_le_f, I_lt_t, I_lt_f, I_eq_t, I_eq_f, I_inb', I_ix', Int.toNat_natCast, decide_true, decide_false, Bool.not_false, Bool.not_true, if_true, if_false, wi_eq, wi_eq', wi_ne, wi_row, wi_2, N0, N1, N2, N3, N4, N5, N6, N7, N8, N9, N10, N11, N12, N13, N14, N15, N16, N17, N18, N19, N20, N21, N22, N23, N24, N25, N26, N27, N28, N29, N30, N31, N32, N33, N34, N35, N36, N37, N38, N39, N40, N41, N42, N43, N45, N48, N57, N59, N88, N89, N97, N99, N120, N121, N122, N179, N200, N255, N300, N400, N880, N900, N999, N1019, N50000000, N100000000, N1000000000, N2147483647, N2147483648, h, nu, bn_t, isb_1]
  | r + 1, v, n + 1, z, hz, hv, hn => by
    subst hz
    rw [nu]
    by_cases c : σ.1 (b + 1) v = 0
    · rw [if_pos c, f_X4_nothingUnderWay_2]
      simp (disch := omega) only [↓reduceIte, gd_t, bd_s, nm_W, nm_I, I_add, I_sub, I_mul, I_neg, I_le_t, I_le_f, I_lt_t, I_lt_f, I_eq_t, I_eq_f, I_inb', I_ix', Int.toNat_natCast, decide_true, decide_false, Bool.not_false, Bool.not_true, if_true, if_false, wi_eq, wi_eq', wi_ne, wi_row, wi_2, N1, N2, N3, N4, N5, N6, N7, N8, N9, N10, N11, N12, N13, N14, N15, N16, N17, N18, N19, N20, N21, N22, N23, N24, N25, N26, N27, N28, N29, N30, N31, N32, N33, N34, N35, N36, N37, N38, N39, N40, N41, N42, N43, N45, N48, N57, N59, N88, N89, N97, N99, N120, N121, N122, N179, N200, N255, N300, N400, N880, N900, N999, N1019, N50000000, N100000000, N1000000000, N2147483647, N2147483648, h]
      rw [if_pos c]
      exact c_nu h hV r (v + 1) n _ (by omega) (by omega) (by omega)
    · rw [if_neg c, f_X4_nothingUnderWay_2]
      simp (disch := omega) only [↓reduceIte, gd_t, bd_s, nm_W, nm_I, I_add, I_sub, I_mul, I_neg, I_le_t, I_le_f, I_lt_t, I_lt_f, I_eq_t, I_eq_f, I_inb', I_ix', Int.toNat_natCast, decide_true, decide_false, Bool.not_false, Bool.not_true, if_true, if_false, wi_eq, wi_eq', wi_ne, wi_row, wi_2, N1, N2, N3, N4, N5, N6, N7, N8, N9, N10, N11, N12, N13, N14, N15, N16, N17, N18, N19, N20, N21, N22, N23, N24, N25, N26, N27, N28, N29, N30, N31, N32, N33, N34, N35, N36, N37, N38, N39, N40, N41, N42, N43, N45, N48, N57, N59, N88, N89, N97, N99, N120, N121, N122, N179, N200, N255, N300, N400, N880, N900, N999, N1019, N50000000, N100000000, N1000000000, N2147483647, N2147483648, h]
      rw [if_neg c]
      rfl
theorem r_nu {V : Nat} {τ : Wd} {f : Nat → Int32} (h : τ.1 102 14 = I (V : Int)) (hV : V ≤ 5) (hf : ∀ v, v < V → τ.1 112 (48 + 8 * v) = f v) :
    ∀ (r v n : Nat) (z : Int), z = (v : Int) → v + r = V → r < n → f_X7_isUnderWay_2 n (I z) τ = some (I (bn (!nu f r v)), τ)
  | 0, v, n + 1, z, hz, hv, _ => by
    rw [f_X7_isUnderWay_2]
    simp (disch := omega) only [↓reduceIte, gd_t, bd_s, nm_W, nm_I, I_add, I_sub, I_mul, I_neg, I_le_t, I_le_f, I_lt_t, I_lt_f, I_eq_t, I_eq_f, I_inb', I_ix', Int.toNat_natCast, decide_true, decide_false, Bool.not_false, Bool.not_true, if_true, if_false, wi_eq, wi_eq', wi_ne, wi_row, wi_2, N0, N1, N2, N3, N4, N5, N6, N7, N8, N9, N10, N11, N12, N13, N14, N15, N16, N17, N18, N19, N20, N21, N22, N23, N24, N25, N26, N27, N28, N29, N30, N31, N32, N33, N34, N35, N36, N37, N38, N39, N40, N41, N42, N43, N45, N48, N57, N59, N88, N89, N97, N99, N120, N121, N122, N179, N200, N255, N300, N400, N880, N900, N999, N1019, N50000000, N100000000, N1000000000, N2147483647, N2147483648, h, nu, bn_f, isb_0]
  | r + 1, v, n + 1, z, hz, hv, hn => by
    subst hz
    have t1 : ((48 : Int) + 8 * (v : Int) + 0).toNat = 48 + 8 * v := by omega
    have e : f_X7_partIs (I (v : Int)) 0 τ = some (f v, τ) := by
      unfold f_X7_partIs f_X7_partAt
      simp (disch := omega) only [↓reduceIte, gd_t, bd_s, nm_W, nm_I, I_add, I_sub, I_mul, I_neg, I_le_t, I_le_f, I_lt_t, I_lt_f, I_eq_t, I_eq_f, I_inb', I_ix', Int.toNat_natCast, decide_true, decide_false, Bool.not_false, Bool.not_true, if_true, if_false, wi_eq, wi_eq', wi_ne, wi_row, wi_2, N0, N1, N2, N3, N4, N5, N6, N7, N8, N9, N10, N11, N12, N13, N14, N15, N16, N17, N18, N19, N20, N21, N22, N23, N24, N25, N26, N27, N28, N29, N30, N31, N32, N33, N34, N35, N36, N37, N38, N39, N40, N41, N42, N43, N45, N48, N57, N59, N88, N89, N97, N99, N120, N121, N122, N179, N200, N255, N300, N400, N880, N900, N999, N1019, N50000000, N100000000, N1000000000, N2147483647, N2147483648, t1, hf v (by omega)]
    rw [nu]
    by_cases c : f v = 0
    · rw [if_pos c, f_X7_isUnderWay_2]
      simp (disch := omega) only [↓reduceIte, gd_t, bd_s, nm_W, nm_I, I_add, I_sub, I_mul, I_neg, I_le_t, I_le_f, I_lt_t, I_lt_f, I_eq_t, I_eq_f, I_inb', I_ix', Int.toNat_natCast, decide_true, decide_false, Bool.not_false, Bool.not_true, if_true, if_false, wi_eq, wi_eq', wi_ne, wi_row, wi_2, N1, N2, N3, N4, N5, N6, N7, N8, N9, N10, N11, N12, N13, N14, N15, N16, N17, N18, N19, N20, N21, N22, N23, N24, N25, N26, N27, N28, N29, N30, N31, N32, N33, N34, N35, N36, N37, N38, N39, N40, N41, N42, N43, N45, N48, N57, N59, N88, N89, N97, N99, N120, N121, N122, N179, N200, N255, N300, N400, N880, N900, N999, N1019, N50000000, N100000000, N1000000000, N2147483647, N2147483648, h, e]
      rw [if_pos c]
      exact r_nu h hV hf r (v + 1) n _ (by omega) (by omega) (by omega)
    · rw [if_neg c, f_X7_isUnderWay_2]
      simp (disch := omega) only [↓reduceIte, gd_t, bd_s, nm_W, nm_I, I_add, I_sub, I_mul, I_neg, I_le_t, I_le_f, I_lt_t, I_lt_f, I_eq_t, I_eq_f, I_inb', I_ix', Int.toNat_natCast, decide_true, decide_false, Bool.not_false, Bool.not_true, if_true, if_false, wi_eq, wi_eq', wi_ne, wi_row, wi_2, N1, N2, N3, N4, N5, N6, N7, N8, N9, N10, N11, N12, N13, N14, N15, N16, N17, N18, N19, N20, N21, N22, N23, N24, N25, N26, N27, N28, N29, N30, N31, N32, N33, N34, N35, N36, N37, N38, N39, N40, N41, N42, N43, N45, N48, N57, N59, N88, N89, N97, N99, N120, N121, N122, N179, N200, N255, N300, N400, N880, N900, N999, N1019, N50000000, N100000000, N1000000000, N2147483647, N2147483648, h, e]
      rw [if_neg c]
      rfl
end
