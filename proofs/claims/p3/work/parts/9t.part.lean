/-! PURE: part, whose answers may differ; dry -/
/-- as MT, but of the answers nothing is said -/
def ML (fc fr : Wd → Option (Int32 × Wd)) : Prop := ∀ (σ τ : Wd) (B : Int), GG σ τ B → B ≤ 200000 → ∃ (x y : Int32) (σ' τ' : Wd), fc σ = some (x, σ') ∧ fr τ = some (y, τ') ∧ GG σ' τ' (B + 200) ∧ CL_ σ σ' ∧ RL_ τ τ'
theorem tellP {σ : Wd} {v : Nat} {w : Int32} (hv : v < 5) : ∃ y, f_X4_tellPart 63 (I (v : Int)) w σ = some (y, σ) := by
  have iv : inb (I (v : Int)) 5 = true := inI hv (by decide)
  unfold f_X4_tellPart f_X4_tellPart_106
  simp only [iv, gd_t]
  by_cases c0 : w = (0 : Int32)
  · rw [if_pos c0]; exact ⟨_, rfl⟩
  · rw [if_neg c0]
    by_cases c1 : w = (1 : Int32)
    · rw [if_pos c1]; exact ⟨_, rfl⟩
    · rw [if_neg c1]
      by_cases c2 : w = (2 : Int32)
      · rw [if_pos c2]; exact ⟨_, rfl⟩
      · rw [if_neg c2]
        by_cases c3 : w = (3 : Int32)
        · rw [if_pos c3]; exact ⟨_, rfl⟩
        · rw [if_neg c3]
          by_cases c4 : w = (4 : Int32)
          · rw [if_pos c4]; exact ⟨_, rfl⟩
          · rw [if_neg c4]
            by_cases c5 : w = (5 : Int32)
            · rw [if_pos c5]; exact ⟨_, rfl⟩
            · rw [if_neg c5]
              by_cases c6 : σ.1 (63 + 8) (ix (I (v : Int))) ≤ σ.1 63 1
              · rw [if_pos c6]; exact ⟨_, rfl⟩
              · rw [if_neg c6]; exact ⟨_, rfl⟩
theorem c_part {σ : Wd} {v w a c : Int} (e1 : f_X6_isVenue (I v) σ = some (I a, σ)) (e2 : f_X6_within (I w) (I 0) (I 6) σ = some (I c, σ)) (ha : 0 ≤ a ∧ a ≤ 1) (hc : 0 ≤ c ∧ c ≤ 1) : f_X6_part (I v) (I w) σ = f_X6_part_24 (I v) (I w) (I (a * c)) σ := by
  unfold f_X6_part f_X6_part_23
  by_cases c1 : a = 0
  · simp (disch := omega) only [gd_t, bd_s, nm_W, nm_I, I_add, I_sub, I_mul, I_neg, I_le_t, I_le_f, I_lt_t, I_lt_f, I_eq_t, I_eq_f, I_inb', I_ix', Int.toNat_natCast, decide_true, decide_false, Bool.not_false, Bool.not_true, if_true, if_false, wi_eq, wi_eq', wi_ne, wi_row, wi_2, N0, N1, N2, N3, N4, N5, N6, N7, N8, N9, N10, N11, N12, N13, N14, N15, N16, N17, N18, N19, N20, N21, N22, N23, N24, N25, N26, N27, N28, N29, N30, N31, N32, N33, N34, N35, N36, N37, N38, N39, N40, N41, N42, N43, N45, N48, N57, N59, N88, N89, N97, N99, N120, N121, N122, N179, N200, N255, N300, N400, N880, N900, N999, N1019, N50000000, N100000000, N1000000000, N2147483647, N2147483648, e1]
    rw [c1, Int.zero_mul]
  · have a1 : a = 1 := by omega
    by_cases c2 : c = 0
    · simp (disch := omega) only [gd_t, bd_s, nm_W, nm_I, I_add, I_sub, I_mul, I_neg, I_le_t, I_le_f, I_lt_t, I_lt_f, I_eq_t, I_eq_f, I_inb', I_ix', Int.toNat_natCast, decide_true, decide_false, Bool.not_false, Bool.not_true, if_true, if_false, wi_eq, wi_eq', wi_ne, wi_row, wi_2, N0, N1, N2, N3, N4, N5, N6, N7, N8, N9, N10, N11, N12, N13, N14, N15, N16, N17, N18, N19, N20, N21, N22, N23, N24, N25, N26, N27, N28, N29, N30, N31, N32, N33, N34, N35, N36, N37, N38, N39, N40, N41, N42, N43, N45, N48, N57, N59, N88, N89, N97, N99, N120, N121, N122, N179, N200, N255, N300, N400, N880, N900, N999, N1019, N50000000, N100000000, N1000000000, N2147483647, N2147483648, e1, e2]
      rw [c2, Int.mul_zero]
    · simp (disch := omega) only [gd_t, bd_s, nm_W, nm_I, I_add, I_sub, I_mul, I_neg, I_le_t, I_le_f, I_lt_t, I_lt_f, I_eq_t, I_eq_f, I_inb', I_ix', Int.toNat_natCast, decide_true, decide_false, Bool.not_false, Bool.not_true, if_true, if_false, wi_eq, wi_eq', wi_ne, wi_row, wi_2, N0, N1, N2, N3, N4, N5, N6, N7, N8, N9, N10, N11, N12, N13, N14, N15, N16, N17, N18, N19, N20, N21, N22, N23, N24, N25, N26, N27, N28, N29, N30, N31, N32, N33, N34, N35, N36, N37, N38, N39, N40, N41, N42, N43, N45, N48, N57, N59, N88, N89, N97, N99, N120, N121, N122, N179, N200, N255, N300, N400, N880, N900, N999, N1019, N50000000, N100000000, N1000000000, N2147483647, N2147483648, e1, e2]
      rw [a1, show c = 1 from by omega]
      rfl
theorem r_part {τ : Wd} {v w a c : Int} (e1 : f_X7_isVenue (I v) (wi τ 102 0 (I 0)) = some (I a, wi τ 102 0 (I 0))) (e2 : f_X7_in (I w) (I 0) (I 6) (wi τ 102 0 (I 0)) = some (I c, wi τ 102 0 (I 0))) (ha : 0 ≤ a ∧ a ≤ 1) (hc : 0 ≤ c ∧ c ≤ 1) : f_X7_part (I v) (I w) τ = f_X7_part_29 (I v) (I w) (I (a * c)) (wi τ 102 0 (I 0)) := by
  unfold f_X7_part f_X7_part_28
  by_cases c1 : a = 0
  · simp (disch := omega) only [gd_t, bd_s, nm_W, nm_I, I_add, I_sub, I_mul, I_neg, I_le_t, I_le_f, I_lt_t, I_lt_f, I_eq_t, I_eq_f, I_inb', I_ix', Int.toNat_natCast, decide_true, decide_false, Bool.not_false, Bool.not_true, if_true, if_false, wi_eq, wi_eq', wi_ne, wi_row, wi_2, N0, N1, N2, N3, N4, N5, N6, N7, N8, N9, N10, N11, N12, N13, N14, N15, N16, N17, N18, N19, N20, N21, N22, N23, N24, N25, N26, N27, N28, N29, N30, N31, N32, N33, N34, N35, N36, N37, N38, N39, N40, N41, N42, N43, N45, N48, N57, N59, N88, N89, N97, N99, N120, N121, N122, N179, N200, N255, N300, N400, N880, N900, N999, N1019, N50000000, N100000000, N1000000000, N2147483647, N2147483648, e1]
    rw [c1, Int.zero_mul]
  · have a1 : a = 1 := by omega
    by_cases c2 : c = 0
    · simp (disch := omega) only [gd_t, bd_s, nm_W, nm_I, I_add, I_sub, I_mul, I_neg, I_le_t, I_le_f, I_lt_t, I_lt_f, I_eq_t, I_eq_f, I_inb', I_ix', Int.toNat_natCast, decide_true, decide_false, Bool.not_false, Bool.not_true, if_true, if_false, wi_eq, wi_eq', wi_ne, wi_row, wi_2, N0, N1, N2, N3, N4, N5, N6, N7, N8, N9, N10, N11, N12, N13, N14, N15, N16, N17, N18, N19, N20, N21, N22, N23, N24, N25, N26, N27, N28, N29, N30, N31, N32, N33, N34, N35, N36, N37, N38, N39, N40, N41, N42, N43, N45, N48, N57, N59, N88, N89, N97, N99, N120, N121, N122, N179, N200, N255, N300, N400, N880, N900, N999, N1019, N50000000, N100000000, N1000000000, N2147483647, N2147483648, e1, e2]
      rw [c2, Int.mul_zero]
    · simp (disch := omega) only [gd_t, bd_s, nm_W, nm_I, I_add, I_sub, I_mul, I_neg, I_le_t, I_le_f, I_lt_t, I_lt_f, I_eq_t, I_eq_f, I_inb', I_ix', Int.toNat_natCast, decide_true, decide_false, Bool.not_false, Bool.not_true, if_true, if_false, wi_eq, wi_eq', wi_ne, wi_row, wi_2, N0, N1, N2, N3, N4, N5, N6, N7, N8, N9, N10, N11, N12, N13, N14, N15, N16, N17, N18, N19, N20, N21, N22, N23, N24, N25, N26, N27, N28, N29, N30, N31, N32, N33, N34, N35, N36, N37, N38, N39, N40, N41, N42, N43, N45, N48, N57, N59, N88, N89, N97, N99, N120, N121, N122, N179, N200, N255, N300, N400, N880, N900, N999, N1019, N50000000, N100000000, N1000000000, N2147483647, N2147483648, e1, e2]
      rw [a1, show c = 1 from by omega]
      rfl
theorem m_part (x y : Int32) : ML (f_X6_part x y) (f_X7_part x y) := by
  intro σ τ B ⟨m, V, E, pres, kp, d, p, L, W, dl, pl, et, b, t, s, rd, h, n, g, hG⟩ hB
  obtain ⟨v, rfl, hv⟩ := argI x
  obtain ⟨w, rfl, hw⟩ := argI y
  obtain ⟨bm, m10, m63⟩ := bMm hG.1
  have hM0 := hG.2.2.1.1.1
  have h5 := hM0.1.1
  have c1 := cIsV (σ := σ) hv hG.2.1 bm hM0.2.1.1 h5
  have c2 := rIsV (τ := wi τ 102 0 (I 0)) (V := V) (x := bn pres) hv (by rw [wi_ne (by decide)]; exact hG.2.2.2.1.2.1) (bn_bnd _) (by rw [wi_ne (by decide)]; exact hM0.2.2.1.1) h5
  have c3 := cWithin (σ := σ) (lo := 0) (hi := 6) hw (by unfold R; omega) (by unfold R; omega)
  have c4 := rIn (σ := wi τ 102 0 (I 0)) (lo := 0) (hi := 6) hw (by unfold R; omega) (by unfold R; omega)
  obtain ⟨ra, hra⟩ : ∃ ra, ra = τ.1 112 (48 + 8 * v.toNat + w.toNat) := ⟨_, rfl⟩
  have e0 := cGrant (σ := σ) (pres := pres) (a := bn (decide (0 ≤ v ∧ v < (V : Int)) && decide (0 ≤ w ∧ w ≤ 6))) (n := 1) (s := bn b) hG.2.2.2.1.1 (bn_bnd _) (by omega) (bn_bnd _)
  obtain ⟨x, σ', τ', k1, k2, k3, k4⟩ := run_ok (a := bn (decide (0 ≤ v ∧ v < (V : Int)) && decide (0 ≤ w ∧ w ≤ 6))) (a' := bn (decide (bn pres = 1 ∧ 0 ≤ v ∧ v < (V : Int)) && decide (0 ≤ w ∧ w ≤ 6))) (low := I (-2147483648)) (K := fun σ4 => some (ra, σ4)) (K' := fun σ2 => bd (f_X7_partIs (I v) (I w) σ2) fun r3 σ4 => bd (f_X7_good r3 σ4) fun r5 σ6 => (f_X7_part_55 r5 σ6)) (Rf := f_X7_refusedLow)
    hG (bn_bnd _) (bn_bnd _) (fun q => by
      rw [← bn_mul, ← bn_mul, isV_b rfl q]) (fun c τ => refL) (fun _ ha _ hQ => by
      have q : (decide (0 ≤ v ∧ v < (V : Int)) && decide (0 ≤ w ∧ w ≤ 6)) = true := by
        cases e : (decide (0 ≤ v ∧ v < (V : Int)) && decide (0 ≤ w ∧ w ≤ 6)) with
        | true => rfl
        | false => rw [e] at ha; cases ha
      obtain ⟨q1, q2⟩ := Bool.and_eq_true_iff.mp q
      have yv := of_decide_eq_true q1
      have yw := of_decide_eq_true q2
      obtain ⟨u, rfl⟩ := Int.eq_ofNat_of_zero_le yv.1
      obtain ⟨j, rfl⟩ := Int.eq_ofNat_of_zero_le yw.1
      have t1 : ((48 : Int) + 8 * (u : Int) + (j : Int)).toNat = 48 + 8 * u + j := by omega
      have hra : τ.1 112 (48 + 8 * u + j) = ra := hra.symm
      refine ⟨ra, _, wi τ 102 0 (I 0), rfl, ?_, QFr, RQr⟩
      show bd (f_X7_partIs (I (u : Int)) (I (j : Int)) (wi τ 102 0 (I 0))) (fun r3 σ4 => bd (f_X7_good r3 σ4) fun r5 σ6 => (f_X7_part_55 r5 σ6)) = _
      have e : f_X7_partIs (I (u : Int)) (I (j : Int)) (wi τ 102 0 (I 0)) = some (ra, wi τ 102 0 (I 0)) := by
        unfold f_X7_partIs f_X7_partAt
        clear hQ hG hM0
        simp (disch := omega) only [gd_t, bd_s, nm_W, nm_I, I_add, I_sub, I_mul, I_neg, I_le_t, I_le_f, I_lt_t, I_lt_f, I_eq_t, I_eq_f, I_inb', I_ix', Int.toNat_natCast, decide_true, decide_false, Bool.not_false, Bool.not_true, if_true, if_false, wi_eq, wi_eq', wi_ne, wi_row, wi_2, N0, N1, N2, N3, N4, N5, N6, N7, N8, N9, N10, N11, N12, N13, N14, N15, N16, N17, N18, N19, N20, N21, N22, N23, N24, N25, N26, N27, N28, N29, N30, N31, N32, N33, N34, N35, N36, N37, N38, N39, N40, N41, N42, N43, N45, N48, N57, N59, N88, N89, N97, N99, N120, N121, N122, N179, N200, N255, N300, N400, N880, N900, N999, N1019, N50000000, N100000000, N1000000000, N2147483647, N2147483648, t1, hra]
      rw [e, bd_s]
      rfl)
  have key : ∃ y, (bd (f_X6_granted (I (bn (decide (0 ≤ v ∧ v < (V : Int)) && decide (0 ≤ w ∧ w ≤ 6)))) (I 1) (σ.1 63 0) σ) fun r1 σ2 => if r1 = 0 then some (I (-2147483648), σ2) else (bd (f_X4_tellPart 63 (I v) (I w) σ2) fun r3 σ4 => some (r3, σ4))) = some (y, σ') := by
    rw [show σ.1 63 0 = I (bn b) from hG.2.2.1.1.2.2.1.1.1, e0, bd_s] at k1 ⊢
    by_cases c0 : tc pres (bn (decide (0 ≤ v ∧ v < (V : Int)) && decide (0 ≤ w ∧ w ≤ 6))) 1 (bn b) = 0
    · obtain ⟨-, x2, -⟩ := tc_0 c0
      rw [decide_eq_true c0, bn_t, if_neg (show ¬ I 1 = (0 : Int32) by decide)] at k1 ⊢
      have q1 : 0 ≤ v ∧ v < (V : Int) := by
        by_cases c : 0 ≤ v ∧ v < (V : Int)
        · exact c
        · rw [decide_eq_false c, Bool.false_and] at x2; exact absurd rfl x2
      obtain ⟨u, rfl⟩ := Int.eq_ofNat_of_zero_le q1.1
      obtain ⟨y, hy⟩ := tellP (σ := wi σ 0 12 (I (tc pres (bn (decide (0 ≤ (u : Int) ∧ (u : Int) < (V : Int)) && decide (0 ≤ w ∧ w ≤ 6))) 1 (bn b)))) (w := I w) (show u < 5 by omega)
      obtain ⟨-, k1⟩ := Prod.mk.inj (Option.some.inj k1)
      exact ⟨y, by rw [hy, bd_s, k1]⟩
    · rw [decide_eq_false c0, bn_f, if_pos (show I 0 = (0 : Int32) from rfl)] at k1 ⊢
      obtain ⟨-, k1⟩ := Prod.mk.inj (Option.some.inj k1)
      exact ⟨_, by rw [k1]⟩
  obtain ⟨y, key⟩ := key
  refine ⟨y, x, σ', τ', ?_, ?_, ⟨m, V, E, pres, kp, d, p, L, W, dl, pl, et, b, t, s, rd, h, n, g, GA_B k3 (by omega)⟩, k4⟩
  · rw [c_part c1 c3 (bn_bnd _) (bn_bnd _), bn_mul]
    exact key
  · rw [r_part c2 c4 (bn_bnd _) (bn_bnd _), bn_mul]
    exact k2
/-! dry: -1 stands for what the class throws; the reference tells it at 102, 0 -/
theorem dry_l {m V : Nat} {d : MD} {σ τ : Wd} {p a : Int} (hd : MDok d V) (hc : CV m σ V d) (hr : RV τ V d) (hm : σ.2.2 0 4 = m) (bm : bM m = true) (hp : R p) (c1 : σ.1 m 1 = I p) (e12 : τ.1 102 12 = I p) (e21 : τ.1 102 21 = I 1) (e0 : τ.1 102 0 = I 0) (ha : R a) : ∀ (r v n n' : Nat) (z x : Int), z = (v : Int) → v + r = V → r < n → r < n' → 0 ≤ x → x ≤ z →
    (f_X6_dry_4 n (I a) (I x) (I z) σ = some (I (-1), σ) ∧ f_X7_dry_9 n' (I a) (I x) (I z) τ = some (I 0, wi τ 102 0 (I 1))) ∨ (∃ u : Nat, u < V ∧ f_X6_dry_4 n (I a) (I x) (I z) σ = some (I (u : Int), σ) ∧ f_X7_dry_9 n' (I a) (I x) (I z) τ = some (I (u : Int), τ))
  | 0, v, n + 1, n' + 1, z, x, hz, hv, _, _, x0, x1 => by
    have h5 := hd.1
    have c3 := hc.1
    have e14 := hr.1
    refine Or.inl ⟨?_, ?_⟩
    · rw [f_X6_dry_4]
      clear hc hr hd
      simp (disch := omega) only [gd_t, bd_s, nm_W, nm_I, I_add, I_sub, I_mul, I_neg, I_le_t, I_le_f, I_lt_t, I_lt_f, I_eq_t, I_eq_f, I_inb', I_ix', Int.toNat_natCast, decide_true, decide_false, Bool.not_false, Bool.not_true, if_true, if_false, wi_eq, wi_eq', wi_ne, wi_row, wi_2, N0, N1, N2, N3, N4, N5, N6, N7, N8, N9, N10, N11, N12, N13, N14, N15, N16, N17, N18, N19, N20, N21, N22, N23, N24, N25, N26, N27, N28, N29, N30, N31, N32, N33, N34, N35, N36, N37, N38, N39, N40, N41, N42, N43, N45, N48, N57, N59, N88, N89, N97, N99, N120, N121, N122, N179, N200, N255, N300, N400, N880, N900, N999, N1019, N50000000, N100000000, N1000000000, N2147483647, N2147483648, hm, bm, c3]
    · rw [f_X7_dry_9]
      unfold f_X7_dry_56
      clear hc hr hd
      simp (disch := omega) only [gd_t, bd_s, nm_W, nm_I, I_add, I_sub, I_mul, I_neg, I_le_t, I_le_f, I_lt_t, I_lt_f, I_eq_t, I_eq_f, I_inb', I_ix', Int.toNat_natCast, decide_true, decide_false, Bool.not_false, Bool.not_true, if_true, if_false, wi_eq, wi_eq', wi_ne, wi_row, wi_2, N0, N1, N2, N3, N4, N5, N6, N7, N8, N9, N10, N11, N12, N13, N14, N15, N16, N17, N18, N19, N20, N21, N22, N23, N24, N25, N26, N27, N28, N29, N30, N31, N32, N33, N34, N35, N36, N37, N38, N39, N40, N41, N42, N43, N45, N48, N57, N59, N88, N89, N97, N99, N120, N121, N122, N179, N200, N255, N300, N400, N880, N900, N999, N1019, N50000000, N100000000, N1000000000, N2147483647, N2147483648, e21, e14]
  | r + 1, v, n + 1, n' + 1, z, x, hz, hv, hn1, hn2, x0, x1 => by
    have h5 := hd.1
    have c3 := hc.1
    have e14 := hr.1
    have vV : v < V := by omega
    subst hz
    have d1 : f_X3_depthOf m (I (v : Int)) σ = some (I (dep d p v), σ) := cDepth hc hd vV hp c1
    have d2 : f_X7_depth (I (v : Int)) τ = some (I (dep d p v), τ) := rDepth hr hd vV hp e12
    have db := dep_bnd hd vV (p := p)
    have lb := (hd.2 v vV).2.1
    have l1 : σ.1 (m + 2) v = I (d.lo v) := (hc.2 v vV).2.1
    have l2 : f_X7_lot (I (v : Int)) τ = some (I (d.lo v), τ) := rLot hr hd vV
    obtain ⟨D, hD⟩ : ∃ D, D = dep d p v := ⟨_, rfl⟩
    obtain ⟨l, hl⟩ : ∃ l, l = d.lo v := ⟨_, rfl⟩
    rw [← hD] at d1 d2 db
    have lb : 1 ≤ d.lo v ∧ d.lo v ≤ 20 := lb
    rw [← hl] at l1 l2 lb
    unfold R at ha
    have ih := fun x x0 x1 => dry_l hd hc hr hm bm hp c1 e12 e21 e0 (show R a from ha) r (v + 1) n n' ((v : Int) + 1) x (by omega) (by omega) (by omega) (by omega) x0 x1
    by_cases cD : l ≤ D
    · have s1 : f_X6_dry_4 (n + 1) (I a) (I x) (I (v : Int)) σ = f_X6_dry_4 n (I a) (I x) (I ((v : Int) + 1)) σ := by
        rw [f_X6_dry_4]
        clear hc hr hd ih hD hl
        simp (disch := omega) only [gd_t, bd_s, nm_W, nm_I, I_add, I_sub, I_mul, I_neg, I_le_t, I_le_f, I_lt_t, I_lt_f, I_eq_t, I_eq_f, I_inb', I_ix', Int.toNat_natCast, decide_true, decide_false, Bool.not_false, Bool.not_true, if_true, if_false, wi_eq, wi_eq', wi_ne, wi_row, wi_2, N0, N1, N2, N3, N4, N5, N6, N7, N8, N9, N10, N11, N12, N13, N14, N15, N16, N17, N18, N19, N20, N21, N22, N23, N24, N25, N26, N27, N28, N29, N30, N31, N32, N33, N34, N35, N36, N37, N38, N39, N40, N41, N42, N43, N45, N48, N57, N59, N88, N89, N97, N99, N120, N121, N122, N179, N200, N255, N300, N400, N880, N900, N999, N1019, N50000000, N100000000, N1000000000, N2147483647, N2147483648, hm, bm, c3, d1, l1, f_X6_dry_45]
      have s2 : f_X7_dry_9 (n' + 1) (I a) (I x) (I (v : Int)) τ = f_X7_dry_9 n' (I a) (I x) (I ((v : Int) + 1)) τ := by
        rw [f_X7_dry_9]
        clear hc hr hd ih hD hl
        simp (disch := omega) only [gd_t, bd_s, nm_W, nm_I, I_add, I_sub, I_mul, I_neg, I_le_t, I_le_f, I_lt_t, I_lt_f, I_eq_t, I_eq_f, I_inb', I_ix', Int.toNat_natCast, decide_true, decide_false, Bool.not_false, Bool.not_true, if_true, if_false, wi_eq, wi_eq', wi_ne, wi_row, wi_2, N0, N1, N2, N3, N4, N5, N6, N7, N8, N9, N10, N11, N12, N13, N14, N15, N16, N17, N18, N19, N20, N21, N22, N23, N24, N25, N26, N27, N28, N29, N30, N31, N32, N33, N34, N35, N36, N37, N38, N39, N40, N41, N42, N43, N45, N48, N57, N59, N88, N89, N97, N99, N120, N121, N122, N179, N200, N255, N300, N400, N880, N900, N999, N1019, N50000000, N100000000, N1000000000, N2147483647, N2147483648, e21, e14, d2, l2, f_X7_dry_50]
      rw [s1, s2]
      exact ih x x0 (by omega)
    · by_cases cx : x = a
      · refine Or.inr ⟨v, vV, ?_, ?_⟩
        · have nv : ¬ I (v : Int) = I (-1) := by rw [I_eq (by unfold R; omega) (by unfold R; omega)]; omega
          rw [f_X6_dry_4]
          clear hc hr hd ih hD hl
          simp (disch := omega) only [gd_t, bd_s, nm_W, nm_I, I_add, I_sub, I_mul, I_neg, I_le_t, I_le_f, I_lt_t, I_lt_f, I_eq_t, I_eq_f, I_inb', I_ix', Int.toNat_natCast, decide_true, decide_false, Bool.not_false, Bool.not_true, if_true, if_false, wi_eq, wi_eq', wi_ne, wi_row, wi_2, N0, N1, N2, N3, N4, N5, N6, N7, N8, N9, N10, N11, N12, N13, N14, N15, N16, N17, N18, N19, N20, N21, N22, N23, N24, N25, N26, N27, N28, N29, N30, N31, N32, N33, N34, N35, N36, N37, N38, N39, N40, N41, N42, N43, N45, N48, N57, N59, N88, N89, N97, N99, N120, N121, N122, N179, N200, N255, N300, N400, N880, N900, N999, N1019, N50000000, N100000000, N1000000000, N2147483647, N2147483648, hm, bm, c3, d1, l1]
        · rw [f_X7_dry_9]
          clear hc hr hd ih hD hl
          simp (disch := omega) only [gd_t, bd_s, nm_W, nm_I, I_add, I_sub, I_mul, I_neg, I_le_t, I_le_f, I_lt_t, I_lt_f, I_eq_t, I_eq_f, I_inb', I_ix', Int.toNat_natCast, decide_true, decide_false, Bool.not_false, Bool.not_true, if_true, if_false, wi_eq, wi_eq', wi_ne, wi_row, wi_2, N0, N1, N2, N3, N4, N5, N6, N7, N8, N9, N10, N11, N12, N13, N14, N15, N16, N17, N18, N19, N20, N21, N22, N23, N24, N25, N26, N27, N28, N29, N30, N31, N32, N33, N34, N35, N36, N37, N38, N39, N40, N41, N42, N43, N45, N48, N57, N59, N88, N89, N97, N99, N120, N121, N122, N179, N200, N255, N300, N400, N880, N900, N999, N1019, N50000000, N100000000, N1000000000, N2147483647, N2147483648, e21, e14, d2, l2]
      · have s1 : f_X6_dry_4 (n + 1) (I a) (I x) (I (v : Int)) σ = f_X6_dry_4 n (I a) (I (x + 1)) (I ((v : Int) + 1)) σ := by
          rw [f_X6_dry_4]
          clear hc hr hd ih hD hl
          simp (disch := omega) only [gd_t, bd_s, nm_W, nm_I, I_add, I_sub, I_mul, I_neg, I_le_t, I_le_f, I_lt_t, I_lt_f, I_eq_t, I_eq_f, I_inb', I_ix', Int.toNat_natCast, decide_true, decide_false, Bool.not_false, Bool.not_true, if_true, if_false, wi_eq, wi_eq', wi_ne, wi_row, wi_2, N0, N1, N2, N3, N4, N5, N6, N7, N8, N9, N10, N11, N12, N13, N14, N15, N16, N17, N18, N19, N20, N21, N22, N23, N24, N25, N26, N27, N28, N29, N30, N31, N32, N33, N34, N35, N36, N37, N38, N39, N40, N41, N42, N43, N45, N48, N57, N59, N88, N89, N97, N99, N120, N121, N122, N179, N200, N255, N300, N400, N880, N900, N999, N1019, N50000000, N100000000, N1000000000, N2147483647, N2147483648, hm, bm, c3, d1, l1, f_X6_dry_45]
        have s2 : f_X7_dry_9 (n' + 1) (I a) (I x) (I (v : Int)) τ = f_X7_dry_9 n' (I a) (I (x + 1)) (I ((v : Int) + 1)) τ := by
          rw [f_X7_dry_9]
          clear hc hr hd ih hD hl
          simp (disch := omega) only [gd_t, bd_s, nm_W, nm_I, I_add, I_sub, I_mul, I_neg, I_le_t, I_le_f, I_lt_t, I_lt_f, I_eq_t, I_eq_f, I_inb', I_ix', Int.toNat_natCast, decide_true, decide_false, Bool.not_false, Bool.not_true, if_true, if_false, wi_eq, wi_eq', wi_ne, wi_row, wi_2, N0, N1, N2, N3, N4, N5, N6, N7, N8, N9, N10, N11, N12, N13, N14, N15, N16, N17, N18, N19, N20, N21, N22, N23, N24, N25, N26, N27, N28, N29, N30, N31, N32, N33, N34, N35, N36, N37, N38, N39, N40, N41, N42, N43, N45, N48, N57, N59, N88, N89, N97, N99, N120, N121, N122, N179, N200, N255, N300, N400, N880, N900, N999, N1019, N50000000, N100000000, N1000000000, N2147483647, N2147483648, e21, e14, d2, l2, f_X7_dry_50]
        rw [s1, s2]
        exact ih (x + 1) (by omega) (by omega)
/-- what a dry says: both a venue, or both none -/
def MD_ (a : Int32) : Prop := ∀ (σ τ : Wd) (B : Int), GG σ τ B → ∃ (x y : Int32) (τ' : Wd), f_X6_dry a σ = some (x, σ) ∧ f_X7_dry a τ = some (y, τ') ∧ GG σ τ' (B + 200) ∧ RL_ τ τ' ∧ τ'.2 = τ.2 ∧ ((x = I (-1) ∧ τ'.1 102 0 = I 1) ∨ (x ≠ I (-1) ∧ τ'.1 102 0 = I 0 ∧ y = x))
theorem m_dry (a : Int32) : MD_ a := by
  intro σ τ B hG
  have tk := told_ok (x := 0) hG
  obtain ⟨m, V, E, pres, kp, d, p, L, W, dl, pl, et, b, t, s, rd, h, n, g, hG⟩ := hG
  obtain ⟨a, rfl, ha⟩ := argI a
  obtain ⟨bm, m10, m63⟩ := bMm hG.1
  have hM := hG.2.2.1.1.1
  have h5 := hM.1.1
  have g21 := hG.2.2.2.1.2.1
  have tB := hG.2.2.1.2
  have z0 : (wi τ 102 0 (I 0)).1 102 0 = I 0 := wi_eq
  have GA1 : GG σ (wi (wi τ 102 0 (I 0)) 102 0 (I 1)) (B + 200) := ⟨m, V, E, pres, kp, d, p, L, W, dl, pl, et, b, t, s, rd, h, n, g, GA_B (GA_t hG (fun k hk => by rw [wi_row hk, wi_row hk]) (fun i hi => by rw [wi_ne hi, wi_ne hi])) (by omega)⟩
  have RL1 : RL_ τ (wi (wi τ 102 0 (I 0)) 102 0 (I 1)) := ⟨fun k hk => by rw [wi_row (by omega), wi_row (by omega)], rfl⟩
  cases hp : pres with
  | false =>
    have V0 := (hG.2.2.2.1.2.2 hp).1
    have c3 : σ.1 m 3 = I 0 := by have := hM.2.1.1; rw [V0] at this; exact this
    rw [hp] at g21
    have g21 : τ.1 102 21 = I 0 := g21
    have hm := hG.2.1
    refine ⟨I (-1), I 0, _, ?_, ?_, GA1, RL1, rfl, Or.inl ⟨rfl, wi_eq⟩⟩
    · unfold f_X6_dry
      rw [show FU = 5999 + 1 from rfl, f_X6_dry_4]
      clear hG hM GA1 RL1 tk
      simp (disch := omega) only [gd_t, bd_s, nm_W, nm_I, I_add, I_sub, I_mul, I_neg, I_le_t, I_le_f, I_lt_t, I_lt_f, I_eq_t, I_eq_f, I_inb', I_ix', Int.toNat_natCast, decide_true, decide_false, Bool.not_false, Bool.not_true, if_true, if_false, wi_eq, wi_eq', wi_ne, wi_row, wi_2, N0, N1, N2, N3, N4, N5, N6, N7, N8, N9, N10, N11, N12, N13, N14, N15, N16, N17, N18, N19, N20, N21, N22, N23, N24, N25, N26, N27, N28, N29, N30, N31, N32, N33, N34, N35, N36, N37, N38, N39, N40, N41, N42, N43, N45, N48, N57, N59, N88, N89, N97, N99, N120, N121, N122, N179, N200, N255, N300, N400, N880, N900, N999, N1019, N50000000, N100000000, N1000000000, N2147483647, N2147483648, hm, bm, c3]
    · unfold f_X7_dry
      rw [show FU = 5999 + 1 from rfl, f_X7_dry_9]
      unfold f_X7_dry_56
      clear hG hM GA1 RL1 tk
      simp (disch := omega) only [gd_t, bd_s, nm_W, nm_I, I_add, I_sub, I_mul, I_neg, I_le_t, I_le_f, I_lt_t, I_lt_f, I_eq_t, I_eq_f, I_inb', I_ix', Int.toNat_natCast, decide_true, decide_false, Bool.not_false, Bool.not_true, if_true, if_false, wi_eq, wi_eq', wi_ne, wi_row, wi_2, N0, N1, N2, N3, N4, N5, N6, N7, N8, N9, N10, N11, N12, N13, N14, N15, N16, N17, N18, N19, N20, N21, N22, N23, N24, N25, N26, N27, N28, N29, N30, N31, N32, N33, N34, N35, N36, N37, N38, N39, N40, N41, N42, N43, N45, N48, N57, N59, N88, N89, N97, N99, N120, N121, N122, N179, N200, N255, N300, N400, N880, N900, N999, N1019, N50000000, N100000000, N1000000000, N2147483647, N2147483648, g21]
  | true =>
    rw [hp] at g21
    have g21 : τ.1 102 21 = I 1 := g21
    rcases dry_l (a := a) hM.1 hM.2.1 (RV_congr hM.2.2.1 (by rw [wi_ne (by decide)]) (wi_row (by decide)) (wi_row (by decide)) (wi_row (by decide)) : RV (wi τ 102 0 (I 0)) V d) hG.2.1 bm (QM_p hM) hM.2.2.2.1.1 (by rw [wi_ne (by decide)]; exact hM.2.2.2.1.2.1) (by rw [wi_ne (by decide)]; exact g21) z0 ha V 0 FU FU 0 0 rfl (by omega) (by show _ < 6000; omega) (by show _ < 6000; omega) (by omega) (by omega) with ⟨q1, q2⟩ | ⟨u, hu, q1, q2⟩
    · exact ⟨I (-1), I 0, _, q1, q2, GA1, RL1, rfl, Or.inl ⟨rfl, wi_eq⟩⟩
    · exact ⟨I (u : Int), I (u : Int), _, q1, q2, tk.1, tk.2.2, rfl, Or.inr ⟨fun q => by
        rw [I_eq (by unfold R; omega) (by unfold R; omega)] at q
        omega, z0, rfl⟩⟩
