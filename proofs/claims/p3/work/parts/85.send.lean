/-! PURE: a part is sent -/
def sendC (r v : Nat) (n hp c u : Int32) (σ : Wd) : Wd := wi (wi (wi (wi (wi (dropW r v σ) (r + 1) v (I 1)) (r + 2) v n) (r + 5) v hp) (r + 6) v c) (r + 7) v u
theorem cSend {m r V v : Nat} {d : MD} {σ : Wd} {n t D : Int} (hmr : m + 12 < r) (hv : v < V) (hd : MDok d V) (hc : CV m σ V d) (st : σ.1 r 1 = I t) (sd : σ.1 (m + 5) v = I D) (n0 : 0 ≤ n) (n1 : n ≤ 120) :
    f_X4_send r m (I (v : Int)) (I n) σ = some (0, sendC r v (I n) (I (cst d v n)) (I (cap d v n)) (I (t + D)) σ) := by
  have v5 : v < 5 := Nat.lt_of_lt_of_le hv hd.1
  have k0 : CV m (dropW r v σ) V d := CV_rows hc (fun j g1 g2 => drop_row (by omega))
  have k1 : CV m (wi (wi (dropW r v σ) (r + 1) v (I 1)) (r + 2) v (I n)) V d := CV_rows k0 (fun j g1 g2 => by simp (disch := omega) only [wi_eq, wi_eq', wi_ne, wi_row, wi_2])
  have k2 : CV m (wi (wi (wi (dropW r v σ) (r + 1) v (I 1)) (r + 2) v (I n)) (r + 5) v (I (cst d v n))) V d := CV_rows k1 (fun j g1 g2 => by simp (disch := omega) only [wi_eq, wi_eq', wi_ne, wi_row, wi_2])
  have e1 : (dropW r v σ).1 r 1 = I t := by rw [drop_row (by omega)]; exact st
  have e2 : (dropW r v σ).1 (m + 5) v = I D := by rw [drop_row (by omega)]; exact sd
  unfold f_X4_send sendC
  simp (disch := omega) only [gd_t, bd_s, nm_W, nm_I, I_add, I_sub, I_mul, I_neg, I_le_t, I_le_f, I_lt_t, I_lt_f, I_eq_t, I_eq_f, I_inb', I_ix', Int.toNat_natCast, decide_true, decide_false, Bool.not_false, Bool.not_true, if_true, if_false, wi_eq, wi_eq', wi_ne, wi_row, wi_2, N0, N1, N2, N3, N4, N5, N6, N7, N8, N9, N10, N11, N12, N13, N14, N15, N16, N17, N18, N19, N20, N21, N22, N23, N24, N25, N26, N27, N28, N29, N30, N31, N32, N33, N34, N35, N36, N37, N38, N39, N40, N41, N42, N43, N45, N48, N57, N59, N88, N89, N97, N99, N120, N121, N122, N179, N200, N255, N300, N400, N880, N900, N999, N1019, N50000000, N100000000, N1000000000, N2147483647, N2147483648, cDrop v5, cCost k1 hd hv (n := n) (by omega) (by omega), cCap k2 hd hv n0 (by omega), e1, e2]
theorem send_at {r v : Nat} {n hp c u : Int32} {σ : Wd} : (sendC r v n hp c u σ).1 (r + 1) v = I 1 ∧ (sendC r v n hp c u σ).1 (r + 2) v = n ∧ (sendC r v n hp c u σ).1 (r + 3) v = I 0 ∧ (sendC r v n hp c u σ).1 (r + 4) v = I 0 ∧ (sendC r v n hp c u σ).1 (r + 5) v = hp ∧ (sendC r v n hp c u σ).1 (r + 6) v = c ∧ (sendC r v n hp c u σ).1 (r + 7) v = u ∧ (sendC r v n hp c u σ).1 (r + 8) v = I (-2) := by
  obtain ⟨z1, z2, z3, z4, z5, z6, z7, z8⟩ := drop_at (r := r) (v := v) (σ := σ)
  unfold sendC
  refine ⟨?_, ?_, ?_, ?_, ?_, ?_, ?_, ?_⟩
  · simp (disch := omega) only [wi_eq, wi_eq', wi_ne, wi_row, wi_2]
  · simp (disch := omega) only [wi_eq, wi_eq', wi_ne, wi_row, wi_2]
  · simp (disch := omega) only [wi_eq, wi_eq', wi_ne, wi_row, wi_2]
    exact z3
  · simp (disch := omega) only [wi_eq, wi_eq', wi_ne, wi_row, wi_2]
    exact z4
  · simp (disch := omega) only [wi_eq, wi_eq', wi_ne, wi_row, wi_2]
  · simp (disch := omega) only [wi_eq, wi_eq', wi_ne, wi_row, wi_2]
  · simp (disch := omega) only [wi_eq, wi_eq', wi_ne, wi_row, wi_2]
  · simp (disch := omega) only [wi_eq, wi_eq', wi_ne, wi_row, wi_2]
    exact z8
theorem send_row {r v k : Nat} {n hp c u : Int32} {σ : Wd} (h : k < r + 1 ∨ r + 8 < k) : (sendC r v n hp c u σ).1 k = σ.1 k := by
  unfold sendC
  rw [wi_row (by omega), wi_row (by omega), wi_row (by omega), wi_row (by omega), wi_row (by omega), drop_row h]
theorem send_ne {r v w k : Nat} {n hp c u : Int32} {σ : Wd} (h : w ≠ v) : (sendC r v n hp c u σ).1 k w = σ.1 k w := by
  have key : ∀ (σ : Wd) (a : Nat) (x : Int32), (wi σ a v x).1 k w = σ.1 k w := by
    intro σ a x
    by_cases c : k = a
    · rw [c, wi_ne h]
    · rw [wi_row c]
  unfold sendC
  rw [key, key, key, key, key, drop_ne h]
theorem rSend {V v : Nat} {d : MD} {τ : Wd} {n t D : Int} (hv : v < V) (hd : MDok d V) (hr : RV τ V d) (tt : τ.1 112 37 = I t) (td : τ.1 103 (5 * v + 3) = I D) (n0 : 0 ≤ n) (n1 : n ≤ 120) :
    ∃ τ', f_X7_sends (I (v : Int)) (I n) τ = some (0, τ') ∧ (τ'.1 112 (48 + 8 * v) = I 1 ∧ τ'.1 112 (49 + 8 * v) = I n ∧ τ'.1 112 (50 + 8 * v) = I 0 ∧ τ'.1 112 (51 + 8 * v) = I (cst d v n) ∧ τ'.1 112 (52 + 8 * v) = I (cap d v n) ∧ τ'.1 112 (53 + 8 * v) = I (t + D) ∧ τ'.1 112 (54 + 8 * v) = I (-2) ∧ τ'.1 112 (55 + 8 * v) = I 0)
      ∧ (∀ i, i < 48 + 8 * v ∨ 56 + 8 * v ≤ i → τ'.1 112 i = τ.1 112 i) ∧ (∀ k, k ≠ 112 → τ'.1 k = τ.1 k) ∧ τ'.2 = τ.2 := by
  have v5 : v < 5 := Nat.lt_of_lt_of_le hv hd.1
  obtain ⟨τ0, q1, q2, q3, q4, q5, q6, q7⟩ := rClr (τ := τ) v5
  have w0 : ((48 : Int) + 8 * (v : Int) + 0).toNat = 48 + 8 * v := by omega
  have w1 : ((48 : Int) + 8 * (v : Int) + 1).toNat = 49 + 8 * v := by omega
  have w3 : ((48 : Int) + 8 * (v : Int) + 3).toNat = 51 + 8 * v := by omega
  have w4 : ((48 : Int) + 8 * (v : Int) + 4).toNat = 52 + 8 * v := by omega
  have w5 : ((48 : Int) + 8 * (v : Int) + 5).toNat = 53 + 8 * v := by omega
  have w37 : Int.toNat 37 = 37 := rfl
  have told : ∀ τ' : Wd, f_X7_told (I (v : Int)) (I 3) τ' = some (τ'.1 103 (5 * v + 3), τ') := fun τ' => told7 (σ := τ') 3 v5 (by decide)
  have h0 : RV τ0 V d := RV_cells hr hd.1 (lv6 hd) (by rw [q6 102 (by decide)]) (q6 103 (by decide)) (q6 104 (by decide)) (fun i hi => q5 i (by omega))
  have hx : ∀ τ1 j x, RV τ1 V d → 35 ≤ j → RV (wi τ1 112 j x) V d := fun τ1 j x g1 g2 => RV_wi g1 hd.1 (lv6 hd) g2
  have h2 := hx _ (49 + 8 * v) (I n) (hx _ (48 + 8 * v) (I 1) h0 (by omega)) (by omega)
  have h3 := hx _ (51 + 8 * v) (I (cst d v n)) h2 (by omega)
  have e37 : τ0.1 112 37 = I t := by rw [q5 37 (by omega)]; exact tt
  have e103 : τ0.1 103 (5 * v + 3) = I D := by rw [q6 103 (by decide)]; exact td
  refine ⟨wi (wi (wi (wi (wi τ0 112 (48 + 8 * v) (I 1)) 112 (49 + 8 * v) (I n)) 112 (51 + 8 * v) (I (cst d v n))) 112 (52 + 8 * v) (I (cap d v n))) 112 (53 + 8 * v) (I (t + D)), ?_, ⟨?_, ?_, ?_, ?_, ?_, ?_, ?_, ?_⟩, fun i hi => ?_, fun k hk => ?_, ?_⟩
  · unfold f_X7_sends f_X7_partAt
    simp (disch := omega) only [gd_t, bd_s, nm_W, nm_I, I_add, I_sub, I_mul, I_neg, I_le_t, I_le_f, I_lt_t, I_lt_f, I_eq_t, I_eq_f, I_inb', I_ix', Int.toNat_natCast, decide_true, decide_false, Bool.not_false, Bool.not_true, if_true, if_false, wi_eq, wi_eq', wi_ne, wi_row, wi_2, N0, N1, N2, N3, N4, N5, N6, N7, N8, N9, N10, N11, N12, N13, N14, N15, N16, N17, N18, N19, N20, N21, N22, N23, N24, N25, N26, N27, N28, N29, N30, N31, N32, N33, N34, N35, N36, N37, N38, N39, N40, N41, N42, N43, N45, N48, N57, N59, N88, N89, N97, N99, N120, N121, N122, N179, N200, N255, N300, N400, N880, N900, N999, N1019, N50000000, N100000000, N1000000000, N2147483647, N2147483648, q1, w0, w1, rCost h2 hd hv (n := n) n0 (by omega), w3, rCap h3 hd hv n0 (by omega), w4, told, w5, w37, e37, e103]
  · simp (disch := omega) only [wi_eq, wi_eq', wi_ne, wi_row, wi_2]
  · simp (disch := omega) only [wi_eq, wi_eq', wi_ne, wi_row, wi_2]
  · simp (disch := omega) only [wi_eq, wi_eq', wi_ne, wi_row, wi_2]
    rw [show 50 + 8 * v = 48 + 8 * v + 2 from by omega]
    exact q2 2 (by decide) (by decide) (by decide)
  · simp (disch := omega) only [wi_eq, wi_eq', wi_ne, wi_row, wi_2]
  · simp (disch := omega) only [wi_eq, wi_eq', wi_ne, wi_row, wi_2]
  · simp (disch := omega) only [wi_eq, wi_eq', wi_ne, wi_row, wi_2]
  · simp (disch := omega) only [wi_eq, wi_eq', wi_ne, wi_row, wi_2]
    rw [show 54 + 8 * v = 48 + 8 * v + 6 from by omega]
    exact q4
  · simp (disch := omega) only [wi_eq, wi_eq', wi_ne, wi_row, wi_2]
    rw [show 55 + 8 * v = 48 + 8 * v + 7 from by omega]
    exact q2 7 (by decide) (by decide) (by decide)
  · simp (disch := omega) only [wi_eq, wi_eq', wi_ne, wi_row, wi_2]
    exact q5 i hi
  · simp (disch := omega) only [wi_eq, wi_eq', wi_ne, wi_row, wi_2]
    exact q6 k hk
  · simp (disch := omega) only [wi_eq, wi_eq', wi_ne, wi_row, wi_2]
    exact q7
set_option maxHeartbeats 1000000 in
theorem send_ok {m r V v : Nat} {d : MD} {σ τ : Wd} {p L W : Int} {dl pl : Nat → Int} {b : Bool} {t s n : Int} (hm : 10 < m) (hmr : m + 12 < r) (hv : v < V) (hM : QM m σ τ V d p L W dl pl) (hR : QR r σ τ b t s) (hL : LR (r + 9) σ τ V d) (n0 : 1 ≤ n) (n1 : n ≤ 120) :
    ∃ (σ' τ' : Wd), f_X4_send r m (I (v : Int)) (I n) σ = some (0, σ') ∧ f_X7_sends (I (v : Int)) (I n) τ = some (0, τ') ∧ QM m σ' τ' V d p L W dl pl ∧ QR r σ' τ' b t s ∧ QP r σ' τ' t t v 1 n 0 ∧ LR (r + 9) σ' τ' V d ∧ σ'.1 r = σ.1 r ∧ (∀ k, k < r + 1 ∨ r + 8 < k → σ'.1 k = σ.1 k) ∧ VF m r v σ τ σ' τ' := by
  obtain ⟨D1, D2, D3, D4⟩ := hM.2.2.2.2.2.2.1 v hv
  have t0 := hR.2.1.2.2.1
  have cb := cap_b (n := n) hM.1 hv
  have v5 : v < 5 := Nat.lt_of_lt_of_le hv hM.1.1
  obtain ⟨τ', q1, ⟨a0, a1, a2, a3, a4, a5, a6, a7⟩, q2, q3, q4⟩ := rSend (n := n) hv hM.1 hM.2.2.1 hR.2.1.2.1 D2 (by omega) n1
  have e := cSend (n := n) hmr hv hM.1 hM.2.1 hR.2.1.1 D1 (by omega) n1
  obtain ⟨σ', hσ⟩ : ∃ s, s = sendC r v (I n) (I (cst d v n)) (I (cap d v n)) (I (t + dl v)) σ := ⟨_, rfl⟩
  obtain ⟨z1, z2, z3, z4, z5, z6, z7, z8⟩ := send_at (r := r) (v := v) (n := I n) (hp := I (cst d v n)) (c := I (cap d v n)) (u := I (t + dl v)) (σ := σ)
  rw [← hσ] at e z1 z2 z3 z4 z5 z6 z7 z8
  have fc : ∀ k, k < r + 1 ∨ r + 8 < k → σ'.1 k = σ.1 k := fun k hk => by rw [hσ]; exact send_row hk
  refine ⟨σ', τ', e, q1, ?_, ?_, ⟨⟨z1, a0⟩, ⟨z2, a1⟩, ⟨z3, a2⟩, by rw [a3, z5], ⟨cap d v n, cb.1, cb.2, z6, a4⟩, ⟨t + dl v, -2, z7, a5, by omega, by omega, fun _ => by omega, a6, by omega, by omega, fun _ => ⟨z8, Or.inl rfl⟩, fun _ => ⟨fun q => absurd rfl q, by rw [q3 103 (by decide), D2, I_toInt (by unfold R; omega)]; exact Int.le_refl _⟩, fun q => absurd q (by decide)⟩, fun _ => by rw [a7, z4], n1, Or.inr (Or.inl ⟨rfl, n0, rfl⟩)⟩, ?_, fc r (by omega), fc, ⟨⟨fun k h1 h2 => fc k (by omega), fun k h1 h2 w hw => by rw [hσ]; exact send_ne hw, fun i _ _ => by rw [fc r (by omega)], by rw [hσ]; rfl⟩, ⟨q3, fun i h1 h2 h3 => q2 i h3, q4⟩⟩⟩
  · exact QM_congr hM hM.1 (CV_rows hM.2.1 (fun j g1 g2 => fc j (by omega))) (RV_cells hM.2.2.1 hM.1.1 (lv6 hM.1) (by rw [q3 102 (by decide)]) (q3 103 (by decide)) (q3 104 (by decide)) (fun i hi => q2 i (by omega)))
      (fun i hi => by rw [fc m (by omega)]) (fc _ (by omega)) (fc _ (by omega)) (by rw [q3 102 (by decide)]) (by rw [q3 102 (by decide)]) (q3 103 (by decide)) (q2 35 (by omega)) (fun w hw => q2 _ (by omega))
  · unfold QR
    rw [fc r (by omega), q2 36 (by omega), q2 37 (by omega), q2 38 (by omega), q2 39 (by omega), q2 40 (by omega), q2 41 (by omega), q2 42 (by omega)]
    exact hR
  · exact LR_congr hL rfl rfl (fun k h1 h2 => fc k (by omega)) (fun i hi => q2 i (by omega))
