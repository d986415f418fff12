/-! PURE: the class' rooms and costs for a split of q -/
theorem c_prep1 {m V v l K : Nat} {d : MD} {k6 : Int32 → Int32 → Int32 → Int32 → Wd → Option (Int32 × Wd)} {x2 x3 x4 : Int32} (hm : 10 < m) (hd : MDok d V) (hv : v < V) (hl : d.lo v = (l : Int)) (hK : K * l ≤ 120) :
    ∀ (r i n : Nat) (z : Int) (σ : Wd), z = ((i * l : Nat) : Int) → r < n → i + r = K + 1 → CV m σ V d → σ.1 6 v = I ((K * l : Nat) : Int) →
      (∀ a, a < i → σ.1 7 (121 * v + a * l) = I (cst d v ((a * l : Nat) : Int))) →
      ∃ σ', f_X1_prepare_62 m k6 n x2 x3 x4 (I (v : Int)) (I (l : Int)) (I z) σ = k6 x2 x3 x4 (I ((v : Int) + 1)) σ'
        ∧ (∀ k, k ≠ 7 → σ'.1 k = σ.1 k) ∧ σ'.2 = σ.2 ∧ (∀ i, i < 121 * v → σ'.1 7 i = σ.1 7 i)
        ∧ (∀ a, a ≤ K → σ'.1 7 (121 * v + a * l) = I (cst d v ((a * l : Nat) : Int)))
  | 0, i, n + 1, z, σ, hz, _, hi, h, h6, h7 => by
    have v5 : v < 5 := Nat.lt_of_lt_of_le hv hd.1
    obtain ⟨-, lb, -⟩ := hd.2 v hv
    have hi : i = K + 1 := by omega
    subst hi
    have e : (K + 1) * l = K * l + l := Nat.succ_mul K l
    refine ⟨σ, ?_, fun _ _ => rfl, rfl, fun _ _ => rfl, fun a ha => h7 a (by omega)⟩
    rw [f_X1_prepare_62]
    simp (disch := omega) only [gd_t, bd_s, nm_W, nm_I, I_add, I_sub, I_mul, I_neg, I_le_t, I_le_f, I_lt_t, I_lt_f, I_eq_t, I_eq_f, I_inb', I_ix', Int.toNat_natCast, decide_true, decide_false, Bool.not_false, Bool.not_true, if_true, if_false, wi_eq, wi_eq', wi_ne, wi_row, wi_2, N0, N1, N2, N3, N4, N5, N6, N7, N8, N9, N10, N11, N12, N13, N14, N15, N16, N17, N18, N19, N20, N21, N22, N23, N24, N25, N26, N27, N28, N29, N30, N31, N32, N33, N34, N35, N36, N37, N38, N39, N40, N41, N42, N43, N45, N48, N57, N59, N88, N89, N97, N99, N120, N121, N122, N179, N200, N255, N300, N400, N880, N900, N999, N1019, N50000000, N100000000, N1000000000, N2147483647, N2147483648, h6]
  | r + 1, i, n + 1, z, σ, hz, hn, hi, h, h6, h7 => by
    have v5 : v < 5 := Nat.lt_of_lt_of_le hv hd.1
    obtain ⟨-, lb, -⟩ := hd.2 v hv
    have hiK : i ≤ K := by omega
    have m1 : i * l ≤ K * l := Nat.mul_le_mul_right l hiK
    have e : (i + 1) * l = i * l + l := Nat.succ_mul i l
    have tz : ((v : Int) * 121 + z).toNat = 121 * v + i * l := by omega
    have ec := cCost h hd hv (n := z) (by omega) (by omega)
    obtain ⟨σ', q1, q2, q3, q4, q5⟩ := c_prep1 (k6 := k6) (x2 := x2) (x3 := x3) (x4 := x4) hm hd hv hl hK r (i + 1) n (z + l) (wi σ 7 (121 * v + i * l) (I (cst d v z))) (by omega) (by omega) (by omega)
      (CV_congr h (fun k hk => wi_row (by omega))) (by rw [wi_row (by decide)]; exact h6)
      (fun a ha => by
        by_cases c : a = i
        · subst c; rw [wi_eq, hz]
        · have : a * l + l ≤ i * l := by rw [← Nat.succ_mul]; exact Nat.mul_le_mul_right l (by omega)
          rw [wi_ne (by omega)]; exact h7 a (by omega))
    refine ⟨σ', ?_, fun k hk => by rw [q2 k hk, wi_row hk], by rw [q3, wi_2], fun i' hi' => by rw [q4 i' hi', wi_ne (by omega)], q5⟩
    rw [← q1, f_X1_prepare_62]
    simp (disch := omega) only [gd_t, bd_s, nm_W, nm_I, I_add, I_sub, I_mul, I_neg, I_le_t, I_le_f, I_lt_t, I_lt_f, I_eq_t, I_eq_f, I_inb', I_ix', Int.toNat_natCast, decide_true, decide_false, Bool.not_false, Bool.not_true, if_true, if_false, wi_eq, wi_eq', wi_ne, wi_row, wi_2, N0, N1, N2, N3, N4, N5, N6, N7, N8, N9, N10, N11, N12, N13, N14, N15, N16, N17, N18, N19, N20, N21, N22, N23, N24, N25, N26, N27, N28, N29, N30, N31, N32, N33, N34, N35, N36, N37, N38, N39, N40, N41, N42, N43, N45, N48, N57, N59, N88, N89, N97, N99, N120, N121, N122, N179, N200, N255, N300, N400, N880, N900, N999, N1019, N50000000, N100000000, N1000000000, N2147483647, N2147483648, h6, ec, tz]
theorem c_prep {m V q : Nat} {p but : Int} {d : MD} (hm : 10 < m) (hd : MDok d V) (hp : R p) (hb : R but) (hq : q ≤ 120) :
    ∀ (r v n acc : Nat) (σ : Wd), r < n → v + r = V → acc ≤ 120 * v → CV m σ V d → σ.1 m 1 = I p →
      (∀ w, w < v → σ.1 6 w = I (rm d p but q w : Int) ∧ ∀ a, a ≤ kx d p but w q → σ.1 7 (121 * w + a * (d.lo w).toNat) = I (cst d w ((a * (d.lo w).toNat : Nat) : Int))) →
      ∃ σ', f_X1_prepare_6 m n (I (q : Int)) (I but) (I (acc : Int)) (I (v : Int)) σ = some (I ((min q (acc + srm d p but q r v) : Nat) : Int), σ')
        ∧ (∀ k, k ≠ 6 → k ≠ 7 → σ'.1 k = σ.1 k) ∧ σ'.2 = σ.2
        ∧ (∀ w, w < V → σ'.1 6 w = I (rm d p but q w : Int) ∧ ∀ a, a ≤ kx d p but w q → σ'.1 7 (121 * w + a * (d.lo w).toNat) = I (cst d w ((a * (d.lo w).toNat : Nat) : Int)))
  | 0, v, n + 1, acc, σ, _, hv, ha, h, hl, hw => by
    have h5 := hd.1
    refine ⟨σ, ?_, fun _ _ _ => rfl, rfl, fun w h1 => hw w (by omega)⟩
    rw [f_X1_prepare_6]
    by_cases c : q ≤ acc
    · simp (disch := omega) only [gd_t, bd_s, nm_W, nm_I, I_add, I_sub, I_mul, I_neg, I_le_t, I_le_f, I_lt_t, I_lt_f, I_eq_t, I_eq_f, I_inb', I_ix', Int.toNat_natCast, decide_true, decide_false, Bool.not_false, Bool.not_true, if_true, if_false, wi_eq, wi_eq', wi_ne, wi_row, wi_2, N0, N1, N2, N3, N4, N5, N6, N7, N8, N9, N10, N11, N12, N13, N14, N15, N16, N17, N18, N19, N20, N21, N22, N23, N24, N25, N26, N27, N28, N29, N30, N31, N32, N33, N34, N35, N36, N37, N38, N39, N40, N41, N42, N43, N45, N48, N57, N59, N88, N89, N97, N99, N120, N121, N122, N179, N200, N255, N300, N400, N880, N900, N999, N1019, N50000000, N100000000, N1000000000, N2147483647, N2147483648, h.1, f_X1_prepare_123, srm]
      rw [show min q (acc + 0) = q from by omega]
    · simp (disch := omega) only [gd_t, bd_s, nm_W, nm_I, I_add, I_sub, I_mul, I_neg, I_le_t, I_le_f, I_lt_t, I_lt_f, I_eq_t, I_eq_f, I_inb', I_ix', Int.toNat_natCast, decide_true, decide_false, Bool.not_false, Bool.not_true, if_true, if_false, wi_eq, wi_eq', wi_ne, wi_row, wi_2, N0, N1, N2, N3, N4, N5, N6, N7, N8, N9, N10, N11, N12, N13, N14, N15, N16, N17, N18, N19, N20, N21, N22, N23, N24, N25, N26, N27, N28, N29, N30, N31, N32, N33, N34, N35, N36, N37, N38, N39, N40, N41, N42, N43, N45, N48, N57, N59, N88, N89, N97, N99, N120, N121, N122, N179, N200, N255, N300, N400, N880, N900, N999, N1019, N50000000, N100000000, N1000000000, N2147483647, N2147483648, h.1, f_X1_prepare_123, srm]
      rw [show min q (acc + 0) = acc from by omega]
  | r + 1, v, n + 1, acc, σ, hn, hv, ha, h, hl, hw => by
    have h5 := hd.1
    have hvV : v < V := by omega
    obtain ⟨-, lb, -⟩ := hd.2 v hvV
    have rb := rm_le (p := p) (but := but) (q := q) hd hvV
    have key : ∀ k6, ∃ σ', f_X1_prepare_38 m k6 (I (q : Int)) (I but) (I (acc : Int)) (I (v : Int)) (I (v : Int)) (I (rm d p but q v : Int)) σ = k6 (I (q : Int)) (I but) (I ((acc + rm d p but q v : Nat) : Int)) (I ((v + 1 : Nat) : Int)) σ'
        ∧ (∀ k, k ≠ 6 → k ≠ 7 → σ'.1 k = σ.1 k) ∧ σ'.2 = σ.2 ∧ (∀ i, i < 121 * v → σ'.1 7 i = σ.1 7 i) ∧ (∀ i, i ≠ v → σ'.1 6 i = σ.1 6 i) ∧ σ'.1 6 v = I (rm d p but q v : Int)
        ∧ (∀ a, a ≤ kx d p but v q → σ'.1 7 (121 * v + a * (d.lo v).toNat) = I (cst d v ((a * (d.lo v).toNat : Nat) : Int))) := by
      intro k6
      have hc : CV m (wi σ 6 v (I (rm d p but q v : Int))) V d := CV_congr h (fun k hk => wi_row (by omega))
      obtain ⟨σ', q1, q2, q3, q4, q5⟩ := c_prep1 (k6 := k6) (x2 := I (q : Int)) (x3 := I but) (x4 := I ((acc + rm d p but q v : Nat) : Int)) (l := (d.lo v).toNat) (K := kx d p but v q) hm hd hvV (by omega) (Nat.le_trans rb hq) (kx d p but v q + 1) 0 FU 0 (wi σ 6 v (I (rm d p but q v : Int)))
        (by rw [Nat.zero_mul]; rfl) (by show _ < 6000; have : kx d p but v q ≤ kx d p but v q * (d.lo v).toNat := Nat.le_mul_of_pos_right _ (by omega); have : kx d p but v q * (d.lo v).toNat ≤ q := rb; omega) (by omega) hc wi_eq (fun a ha => absurd ha (by omega))
      refine ⟨σ', ?_, fun k h1 h2 => by rw [q2 k h2, wi_row h1], by rw [q3, wi_2], fun i hi => by rw [q4 i hi, wi_row (by decide)], fun i hi => by rw [q2 6 (by decide), wi_ne hi], by rw [q2 6 (by decide), wi_eq], q5⟩
      rw [show (((v + 1 : Nat) : Int)) = (v : Int) + 1 from rfl, ← q1]
      unfold f_X1_prepare_38
      simp (disch := omega) only [gd_t, bd_s, nm_W, nm_I, I_add, I_sub, I_mul, I_neg, I_le_t, I_le_f, I_lt_t, I_lt_f, I_eq_t, I_eq_f, I_inb', I_ix', Int.toNat_natCast, decide_true, decide_false, Bool.not_false, Bool.not_true, if_true, if_false, wi_eq, wi_eq', wi_ne, wi_row, wi_2, N0, N1, N2, N3, N4, N5, N6, N7, N8, N9, N10, N11, N12, N13, N14, N15, N16, N17, N18, N19, N20, N21, N22, N23, N24, N25, N26, N27, N28, N29, N30, N31, N32, N33, N34, N35, N36, N37, N38, N39, N40, N41, N42, N43, N45, N48, N57, N59, N88, N89, N97, N99, N120, N121, N122, N179, N200, N255, N300, N400, N880, N900, N999, N1019, N50000000, N100000000, N1000000000, N2147483647, N2147483648, cLot hc hd hvV]
      rw [show (((acc + rm d p but q v : Nat) : Int)) = (acc : Int) + (rm d p but q v : Int) from by omega, show (((d.lo v).toNat : Nat) : Int) = d.lo v from by omega]
    obtain ⟨τ, t1, t2, t3, t4, t5, t6, t7⟩ := key (f_X1_prepare_6 m n)
    obtain ⟨σ', q1, q2, q3, q4⟩ := c_prep (p := p) (but := but) hm hd hp hb hq r (v + 1) n (acc + rm d p but q v) τ (by omega) (by omega) (by omega)
      (CV_congr h (fun k hk => t2 k (by omega) (by omega))) (by rw [t2 m (by omega) (by omega)]; exact hl)
      (fun w hw2 => by
        by_cases c : w = v
        · subst c; exact ⟨t6, t7⟩
        · obtain ⟨g1, g2⟩ := hw w (by omega)
          refine ⟨by rw [t5 w c]; exact g1, fun a ha => ?_⟩
          have hwV : w < V := by omega
          have k1 := rm_le (p := p) (but := but) (q := q) hd hwV
          have k2 : a * (d.lo w).toNat ≤ rm d p but q w := Nat.mul_le_mul_right _ ha
          rw [t4 _ (by omega)]
          exact g2 a ha)
    refine ⟨σ', ?_, fun k h1 h2 => by rw [q2 k h1 h2, t2 k h1 h2], by rw [q3, t3], q4⟩
    rw [show acc + srm d p but q (r + 1) v = acc + rm d p but q v + srm d p but q r (v + 1) from by rw [srm, Nat.add_assoc], ← q1, ← t1, f_X1_prepare_6]
    have er := kx_whl (u := q) (p := p) (but := but) hd hvV
    unfold R at hb
    by_cases c : (v : Int) = but
    · rw [if_pos c] at er
      simp (disch := omega) only [gd_t, bd_s, nm_W, nm_I, I_add, I_sub, I_mul, I_neg, I_le_t, I_le_f, I_lt_t, I_lt_f, I_eq_t, I_eq_f, I_inb', I_ix', Int.toNat_natCast, decide_true, decide_false, Bool.not_false, Bool.not_true, if_true, if_false, wi_eq, wi_eq', wi_ne, wi_row, wi_2, N0, N1, N2, N3, N4, N5, N6, N7, N8, N9, N10, N11, N12, N13, N14, N15, N16, N17, N18, N19, N20, N21, N22, N23, N24, N25, N26, N27, N28, N29, N30, N31, N32, N33, N34, N35, N36, N37, N38, N39, N40, N41, N42, N43, N45, N48, N57, N59, N88, N89, N97, N99, N120, N121, N122, N179, N200, N255, N300, N400, N880, N900, N999, N1019, N50000000, N100000000, N1000000000, N2147483647, N2147483648, h.1]
      rw [show rm d p but q v = 0 from by unfold rm; omega]
      rfl
    · rw [if_neg c] at er
      have e2 := cWhole h hd hvV hp hl (q := (q : Int)) (by omega) (by omega)
      rw [er] at e2
      simp (disch := omega) only [gd_t, bd_s, nm_W, nm_I, I_add, I_sub, I_mul, I_neg, I_le_t, I_le_f, I_lt_t, I_lt_f, I_eq_t, I_eq_f, I_inb', I_ix', Int.toNat_natCast, decide_true, decide_false, Bool.not_false, Bool.not_true, if_true, if_false, wi_eq, wi_eq', wi_ne, wi_row, wi_2, N0, N1, N2, N3, N4, N5, N6, N7, N8, N9, N10, N11, N12, N13, N14, N15, N16, N17, N18, N19, N20, N21, N22, N23, N24, N25, N26, N27, N28, N29, N30, N31, N32, N33, N34, N35, N36, N37, N38, N39, N40, N41, N42, N43, N45, N48, N57, N59, N88, N89, N97, N99, N120, N121, N122, N179, N200, N255, N300, N400, N880, N900, N999, N1019, N50000000, N100000000, N1000000000, N2147483647, N2147483648, h.1, e2]
      rfl
theorem cPrep {m V q : Nat} {p but : Int} {d : MD} {σ : Wd} (hm : 10 < m) (hd : MDok d V) (hp : R p) (hb : R but) (hq : q ≤ 120) (h : CV m σ V d) (hl : σ.1 m 1 = I p) :
    ∃ σ', f_X1_prepare m (I (q : Int)) (I but) σ = some (I ((min q (srm d p but q V 0) : Nat) : Int), σ')
        ∧ (∀ k, k ≠ 6 → k ≠ 7 → σ'.1 k = σ.1 k) ∧ σ'.2 = σ.2
        ∧ (∀ w, w < V → σ'.1 6 w = I (rm d p but q w : Int) ∧ ∀ a, a ≤ kx d p but w q → σ'.1 7 (121 * w + a * (d.lo w).toNat) = I (cst d w ((a * (d.lo w).toNat : Nat) : Int))) := by
  have h5 := hd.1
  obtain ⟨σ', q1, q2, q3, q4⟩ := c_prep (p := p) (but := but) hm hd hp hb hq V 0 FU 0 σ (by show V < 6000; omega) (by omega) (by omega) h hl (fun w hw => absurd hw (by omega))
  refine ⟨σ', ?_, q2, q3, q4⟩
  rw [Nat.zero_add] at q1
  exact q1
