/-! PURE: now, entries, bought -/
theorem m_now (x : Int32) : MT (f_X6_now x) (f_X7_now x) := by
  intro σ τ B ⟨m, V, E, pres, kp, d, p, L, W, dl, pl, et, b, t, s, rd, h, n, g, hG⟩ hB
  obtain ⟨w, rfl, hw⟩ := argI x
  obtain ⟨bm, m10, m63⟩ := bMm hG.1
  have c1 := cWithin (σ := σ) (lo := 0) (hi := 7) hw (by unfold R; omega) (by unfold R; omega)
  have c2 := rIn (σ := wi τ 102 0 (I 0)) (lo := 0) (hi := 7) hw (by unfold R; omega) (by unfold R; omega)
  obtain ⟨x, σ', τ', k1, k2, k3, k4⟩ := run_ok (a := bn (decide (0 ≤ w ∧ w ≤ 7))) (a' := bn (decide (0 ≤ w ∧ w ≤ 7))) (low := I (-2147483648)) (K := fun σ4 => gd (bM (σ4.2.2 0 4)) (bd (f_X4_tell 63 (σ4.2.2 0 4) (I w) σ4) fun r6 σ7 => some (r6, σ7))) (K' := fun σ5 => bd (f_X7_isNow (I w) σ5) fun r6 σ7 => bd (f_X7_good r6 σ7) fun r8 σ9 => (f_X7_now_38 r8 σ9)) (Rf := f_X7_refusedLow)
    hG (bn_bnd _) (bn_bnd _) (fun _ => rfl) (fun c τ => refL) (fun _ ha _ hQ => by
      have y := bn_1 ha
      obtain ⟨τ4, x, e1, e2, e3⟩ := tell_ok hQ y.1 y.2
      refine ⟨x, _, τ4, ?_, ?_, QFr, ⟨fun k k1 k2 => e3.1 k k1 (by omega) (by omega), fun i hi => e3.2.1 i (by omega) (by omega), e3.2.2⟩⟩
      · show gd (bM ((wi σ 0 12 (I 0)).2.2 0 4)) (bd (f_X4_tell 63 ((wi σ 0 12 (I 0)).2.2 0 4) (I w) (wi σ 0 12 (I 0))) _) = _
        rw [show (wi σ 0 12 (I 0)).2.2 0 4 = m from hG.2.1, bm, gd_t, e1, bd_s]
      · show bd (f_X7_isNow (I w) (wi τ 102 0 (I 0))) _ = _
        rw [e2, bd_s]
        rfl)
  refine ⟨x, σ', τ', ?_, ?_, ⟨m, V, E, pres, kp, d, p, L, W, dl, pl, et, b, t, s, rd, h, n, g, GA_B k3 (by omega)⟩, k4⟩
  · unfold f_X6_now
    rw [show (0 : Int32) = I 0 from rfl, show (7 : Int32) = I 7 from rfl, c1, bd_s]
    exact k1
  · unfold f_X7_now
    rw [nm_W]
    show bd (f_X7_in (I w) (I 0) (I 7) (wi τ 102 0 (I 0))) _ = _
    rw [c2, bd_s]
    exact k2
theorem m_entries : MT f_X6_entries f_X7_entries := by
  intro σ τ B ⟨m, V, E, pres, kp, d, p, L, W, dl, pl, et, b, t, s, rd, h, n, g, hG⟩ hB
  obtain ⟨x, σ', τ', k1, k2, k3, k4⟩ := run_ok (a := 1) (a' := 1) (low := I (-1)) (K := fun σ2 => some (σ2.1 72 0, σ2)) (K' := fun σ3 => gd (inb (88 : Int32) 179) (bd (f_X7_good (σ3.1 112 (ix (88 : Int32))) σ3) fun r4 σ5 => (f_X7_entries_34 r4 σ5))) (Rf := f_X7_refused)
    hG (by omega) (by omega) (fun _ => rfl) (fun c τ => refR) (fun _ _ _ hQ => by
      obtain ⟨c, sl, l1, l2, l3, -⟩ := hQ.2.2.2.2.2.1
      refine ⟨I (c : Int), _, wi τ 102 0 (I 0), ?_, ?_, QFr, RQr⟩
      · show some ((wi σ 0 12 (I 0)).1 72 0, _) = _
        rw [show (wi σ 0 12 (I 0)).1 72 0 = I (c : Int) from l2]
      · show gd (inb (88 : Int32) 179) (bd (f_X7_good ((wi τ 102 0 (I 0)).1 112 (ix (88 : Int32))) (wi τ 102 0 (I 0))) _) = _
        rw [show (wi τ 102 0 (I 0)).1 112 (ix (88 : Int32)) = I (c : Int) from l3]
        rfl)
  exact ⟨x, σ', τ', k1, k2, ⟨m, V, E, pres, kp, d, p, L, W, dl, pl, et, b, t, s, rd, h, n, g, GA_B k3 (by omega)⟩, k4⟩
theorem r_bought {b : Nat} {σ τ : Wd} {c : Nat} {x1 x2 : Int32} (hc : c ≤ 30) (h : τ.1 112 88 = I (c : Int)) (he : ∀ i, i < c → τ.1 112 (89 + 3 * i) = σ.1 (b + 1) i ∧ τ.1 112 (90 + 3 * i) = σ.1 (b + 2) i ∧ τ.1 112 (91 + 3 * i) = σ.1 (b + 3) i) :
    ∀ (r i n : Nat) (z : Int), z = (i : Int) → i + r = c → r < n →
      f_X7_bought_28 n x1 x2 (I z) τ = bd (f_X7_good (match fi (mt σ b x1 x2) r i with | some j => σ.1 (b + 3) j | none => I 0) τ) (fun r s => some (r, s))
  | 0, i, n + 1, z, hz, hi, _ => by
    have e88 : Int.toNat 88 = 88 := rfl
    unfold fi
    rw [f_X7_bought_28]
    simp (disch := omega) only [gd_t, bd_s, nm_W, nm_I, I_add, I_sub, I_mul, I_neg, I_le_t, I_le_f, I_lt_t, I_lt_f, I_eq_t, I_eq_f, I_inb', I_ix', Int.toNat_natCast, decide_true, decide_false, Bool.not_false, Bool.not_true, if_true, if_false, wi_eq, wi_eq', wi_ne, wi_row, wi_2, N0, N1, N2, N3, N4, N5, N6, N7, N8, N9, N10, N11, N12, N13, N14, N15, N16, N17, N18, N19, N20, N21, N22, N23, N24, N25, N26, N27, N28, N29, N30, N31, N32, N33, N34, N35, N36, N37, N38, N39, N40, N41, N42, N43, N45, N48, N57, N59, N88, N89, N97, N99, N120, N121, N122, N179, N200, N255, N300, N400, N880, N900, N999, N1019, N50000000, N100000000, N1000000000, N2147483647, N2147483648, e88, h]
  | r + 1, i, n + 1, z, hz, hi, hn => by
    subst hz
    have e88 : Int.toNat 88 = 88 := rfl
    have t1 : ((89 : Int) + 3 * (i : Int)).toNat = 89 + 3 * i := by omega
    have t2 : ((89 : Int) + 3 * (i : Int) + 1).toNat = 90 + 3 * i := by omega
    have t3 : ((89 : Int) + 3 * (i : Int) + 2).toNat = 91 + 3 * i := by omega
    obtain ⟨e1, e2, e3⟩ := he i (by omega)
    have ef : fi (mt σ b x1 x2) (r + 1) i = if mt σ b x1 x2 i then some i else fi (mt σ b x1 x2) r (i + 1) := rfl
    have ih := r_bought (x1 := x1) (x2 := x2) hc h he r (i + 1) n ((i : Int) + 1) (by omega) (by omega) (by omega)
    clear he
    by_cases c1 : σ.1 (b + 1) i = x1
    · by_cases c2 : σ.1 (b + 2) i = x2
      · have em : mt σ b x1 x2 i = true := decide_eq_true ⟨c1, c2⟩
        rw [em, if_pos rfl] at ef
        rw [ef, f_X7_bought_28]
        simp (disch := omega) only [gd_t, bd_s, nm_W, nm_I, I_add, I_sub, I_mul, I_neg, I_le_t, I_le_f, I_lt_t, I_lt_f, I_eq_t, I_eq_f, I_inb', I_ix', Int.toNat_natCast, decide_true, decide_false, Bool.not_false, Bool.not_true, if_true, if_false, wi_eq, wi_eq', wi_ne, wi_row, wi_2, N0, N1, N2, N3, N4, N5, N6, N7, N8, N9, N10, N11, N12, N13, N14, N15, N16, N17, N18, N19, N20, N21, N22, N23, N24, N25, N26, N27, N28, N29, N30, N31, N32, N33, N34, N35, N36, N37, N38, N39, N40, N41, N42, N43, N45, N48, N57, N59, N88, N89, N97, N99, N120, N121, N122, N179, N200, N255, N300, N400, N880, N900, N999, N1019, N50000000, N100000000, N1000000000, N2147483647, N2147483648, e88, h, t1, t2, t3, e1, e2, e3, if_pos c1, if_pos c2]
      · have em : mt σ b x1 x2 i = false := decide_eq_false (fun q => c2 q.2)
        rw [em, if_neg (show ¬ false = true by decide)] at ef
        rw [ef, ← ih, f_X7_bought_28]
        simp (disch := omega) only [gd_t, bd_s, nm_W, nm_I, I_add, I_sub, I_mul, I_neg, I_le_t, I_le_f, I_lt_t, I_lt_f, I_eq_t, I_eq_f, I_inb', I_ix', Int.toNat_natCast, decide_true, decide_false, Bool.not_false, Bool.not_true, if_true, if_false, wi_eq, wi_eq', wi_ne, wi_row, wi_2, N0, N1, N2, N3, N4, N5, N6, N7, N8, N9, N10, N11, N12, N13, N14, N15, N16, N17, N18, N19, N20, N21, N22, N23, N24, N25, N26, N27, N28, N29, N30, N31, N32, N33, N34, N35, N36, N37, N38, N39, N40, N41, N42, N43, N45, N48, N57, N59, N88, N89, N97, N99, N120, N121, N122, N179, N200, N255, N300, N400, N880, N900, N999, N1019, N50000000, N100000000, N1000000000, N2147483647, N2147483648, e88, h, t1, t2, e1, e2, if_pos c1, if_neg c2, f_X7_bought_87]
    · have em : mt σ b x1 x2 i = false := decide_eq_false (fun q => c1 q.1)
      rw [em, if_neg (show ¬ false = true by decide)] at ef
      rw [ef, ← ih, f_X7_bought_28]
      simp (disch := omega) only [gd_t, bd_s, nm_W, nm_I, I_add, I_sub, I_mul, I_neg, I_le_t, I_le_f, I_lt_t, I_lt_f, I_eq_t, I_eq_f, I_inb', I_ix', Int.toNat_natCast, decide_true, decide_false, Bool.not_false, Bool.not_true, if_true, if_false, wi_eq, wi_eq', wi_ne, wi_row, wi_2, N0, N1, N2, N3, N4, N5, N6, N7, N8, N9, N10, N11, N12, N13, N14, N15, N16, N17, N18, N19, N20, N21, N22, N23, N24, N25, N26, N27, N28, N29, N30, N31, N32, N33, N34, N35, N36, N37, N38, N39, N40, N41, N42, N43, N45, N48, N57, N59, N88, N89, N97, N99, N120, N121, N122, N179, N200, N255, N300, N400, N880, N900, N999, N1019, N50000000, N100000000, N1000000000, N2147483647, N2147483648, e88, h, t1, e1, if_neg c1, f_X7_bought_87]
theorem c_bought {b c : Nat} {σ : Wd} {x1 x2 : Int32} (hc : c ≤ 30) (h : σ.1 b 0 = I (c : Int)) : f_X2_unitsAt b x1 x2 σ = some (match fi (mt σ b x1 x2) c 0 with | some j => σ.1 (b + 3) j | none => I 0, σ) := by
  have ef := cFind (x1 := x1) (x2 := x2) hc h
  cases hf : fi (mt σ b x1 x2) c 0 with
  | none =>
    rw [hf] at ef
    unfold f_X2_unitsAt f_X2_unitsAt_22
    simp (disch := omega) only [gd_t, bd_s, nm_W, nm_I, I_add, I_sub, I_mul, I_neg, I_le_t, I_le_f, I_lt_t, I_lt_f, I_eq_t, I_eq_f, I_inb', I_ix', Int.toNat_natCast, decide_true, decide_false, Bool.not_false, Bool.not_true, if_true, if_false, wi_eq, wi_eq', wi_ne, wi_row, wi_2, N0, N1, N2, N3, N4, N5, N6, N7, N8, N9, N10, N11, N12, N13, N14, N15, N16, N17, N18, N19, N20, N21, N22, N23, N24, N25, N26, N27, N28, N29, N30, N31, N32, N33, N34, N35, N36, N37, N38, N39, N40, N41, N42, N43, N45, N48, N57, N59, N88, N89, N97, N99, N120, N121, N122, N179, N200, N255, N300, N400, N880, N900, N999, N1019, N50000000, N100000000, N1000000000, N2147483647, N2147483648, ef, fo]
  | some j =>
    obtain ⟨-, j2, -⟩ := fi_some c 0 hf
    rw [hf] at ef
    unfold f_X2_unitsAt f_X2_unitsAt_22
    simp (disch := omega) only [gd_t, bd_s, nm_W, nm_I, I_add, I_sub, I_mul, I_neg, I_le_t, I_le_f, I_lt_t, I_lt_f, I_eq_t, I_eq_f, I_inb', I_ix', Int.toNat_natCast, decide_true, decide_false, Bool.not_false, Bool.not_true, if_true, if_false, wi_eq, wi_eq', wi_ne, wi_row, wi_2, N0, N1, N2, N3, N4, N5, N6, N7, N8, N9, N10, N11, N12, N13, N14, N15, N16, N17, N18, N19, N20, N21, N22, N23, N24, N25, N26, N27, N28, N29, N30, N31, N32, N33, N34, N35, N36, N37, N38, N39, N40, N41, N42, N43, N45, N48, N57, N59, N88, N89, N97, N99, N120, N121, N122, N179, N200, N255, N300, N400, N880, N900, N999, N1019, N50000000, N100000000, N1000000000, N2147483647, N2147483648, ef, fo]
theorem m_bought (x y : Int32) : MT (f_X6_bought x y) (f_X7_bought x y) := by
  intro σ τ B ⟨m, V, E, pres, kp, d, p, L, W, dl, pl, et, b, t, s, rd, h, n, g, hG⟩ hB
  obtain ⟨v, rfl, hv⟩ := argI x
  obtain ⟨bm, m10, m63⟩ := bMm hG.1
  have hM0 := hG.2.2.1.1.1
  have h5 := hM0.1.1
  have c1 := cIsV (σ := σ) hv hG.2.1 bm hM0.2.1.1 h5
  have c2 := rIsV (τ := wi τ 102 0 (I 0)) (V := V) (x := bn pres) hv (by rw [wi_ne (by decide)]; exact hG.2.2.2.1.2.1) (bn_bnd _) (by rw [wi_ne (by decide)]; exact hM0.2.2.1.1) h5
  obtain ⟨x, σ', τ', k1, k2, k3, k4⟩ := run_ok (a := bn (decide (0 ≤ v ∧ v < (V : Int)))) (a' := bn (decide (bn pres = 1 ∧ 0 ≤ v ∧ v < (V : Int)))) (low := I (-1)) (K := fun σ4 => bd (f_X2_unitsAt 72 (I v) y σ4) fun r5 σ6 => some (r5, σ6)) (K' := fun σ5 => f_X7_bought_28 FU (I v) y (0 : Int32) σ5) (Rf := f_X7_refused)
    hG (bn_bnd _) (bn_bnd _) (isV_b rfl) (fun c τ => refR) (fun _ _ _ hQ => by
      obtain ⟨c, sl, l1, l2, l3, l4, -⟩ := hQ.2.2.2.2.2.1
      have e1 := c_bought (x1 := I v) (x2 := y) l1 l2
      have e2 := r_bought (x1 := I v) (x2 := y) (σ := wi σ 0 12 (I 0)) (b := 72) l1 l3 (fun i hi => ⟨(l4 i hi).2.2.2.1, (l4 i hi).2.2.2.2.1, (l4 i hi).2.2.2.2.2⟩) c 0 FU 0 rfl (by omega) (by show _ < 6000; omega)
      refine ⟨_, _, wi τ 102 0 (I 0), ?_, e2, QFr, RQr⟩
      show bd (f_X2_unitsAt 72 (I v) y (wi σ 0 12 (I 0))) _ = _
      rw [e1, bd_s])
  refine ⟨x, σ', τ', ?_, ?_, ⟨m, V, E, pres, kp, d, p, L, W, dl, pl, et, b, t, s, rd, h, n, g, GA_B k3 (by omega)⟩, k4⟩
  · unfold f_X6_bought
    rw [c1, bd_s]
    exact k1
  · unfold f_X7_bought
    rw [nm_W]
    show bd (f_X7_isVenue (I v) (wi τ 102 0 (I 0))) _ = _
    rw [c2, bd_s]
    exact k2
