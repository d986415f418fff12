/-! PURE: more questions with an amount -/
theorem isV_b {V : Nat} {z x : Int} {pres : Bool} (hx : x = bn pres) : pres = true → bn (decide (0 ≤ z ∧ z < (V : Int))) = bn (decide (x = 1 ∧ 0 ≤ z ∧ z < (V : Int))) := by
  intro h
  rw [h] at hx
  rw [hx, bn_t]
  congr 1
  exact decide_eq_decide.mpr ⟨fun q => ⟨rfl, q⟩, fun q => q.2⟩
theorem isV_1 {V : Nat} {z : Int} (h : bn (decide (0 ≤ z ∧ z < (V : Int))) = 1) : 0 ≤ z ∧ z < (V : Int) := by
  by_cases c : 0 ≤ z ∧ z < (V : Int)
  · exact c
  · rw [decide_eq_false c, bn_f] at h
    omega
/-- as amt_ok, with a venue asked for first -/
theorem amtv_ok {m V E : Nat} {σ τ : Wd} {pres kp : Bool} {d : MD} {p L W : Int} {dl pl et : Nat → Int} {b : Bool} {t s rd : Int} {h n g : Nat → Int} {B q v : Int} {low : Int32} {K K' : Wd → Option (Int32 × Wd)} {Rf : Int32 → Wd → Option (Int32 × Wd)}
    (hG : GA m σ τ V E pres kp d p L W dl pl et b t s rd h n g B) (hq : R q) (hv : R v) (hRf : ∀ c τ, Rf c τ = some (low, wi (wi τ 102 1 c) 102 2 (I (-1))))
    (hK : pres = true → 0 ≤ v → v < (V : Int) → 1 ≤ q → q ≤ 120 → ∀ σ2 τ3, QM m σ2 τ3 V d p L W dl pl → σ2.2.2 0 4 = m → ∃ (x : Int32) (σ' τ4 : Wd), K σ2 = some (x, σ') ∧ K' τ3 = bd (f_X7_good x τ4) (fun r s => some (r, s)) ∧ QF σ2 σ' ∧ RQ τ3 τ4) :
    ∃ (x : Int32) (σ' τ' : Wd), (bd (f_X6_isVenue (I v) σ) fun r0 σ1 => bd (f_X6_grantedAmount r0 (I q) σ1) fun r1 σ2 => if r1 = 0 then some (low, σ2) else K σ2) = some (x, σ')
      ∧ (nmW (wi τ 102 0 (0 : Int32)) fun σ0 => bd (f_X7_isVenue (I v) σ0) fun r0 σ1 => bd (f_X7_refusesQ r0 (I q) σ1) fun r2 σ3 => if r2 ≤ 0 then K' σ3 else bd (Rf r2 σ3) fun r s => some (r, s)) = some (x, τ')
      ∧ GA m σ' τ' V E pres kp d p L W dl pl et b t s rd h n g B ∧ CL_ σ σ' ∧ RL_ τ τ' := by
  obtain ⟨bm, m10, m63⟩ := bMm hG.1
  have e1 := cIsV (σ := σ) hv hG.2.1 bm hG.2.2.1.1.1.2.1.1 hG.2.2.1.1.1.1.1
  have e2 := rIsV (τ := wi τ 102 0 (0 : Int32)) (V := V) (x := bn pres) hv (by rw [wi_ne (by decide)]; exact hG.2.2.2.1.2.1) (bn_bnd _) (by rw [wi_ne (by decide)]; exact hG.2.2.1.1.1.2.2.1.1) hG.2.2.1.1.1.1.1
  obtain ⟨x, σ', τ', k1, k2, k3⟩ := amt_ok (K := K) (K' := K') (Rf := Rf) (low := low) hG hq (bn_bnd (decide (0 ≤ v ∧ v < (V : Int)))) (bn_bnd (decide (bn pres = 1 ∧ 0 ≤ v ∧ v < (V : Int)))) (isV_b rfl) hRf (fun a1 a2 a3 a4 => hK a1 (isV_1 a2).1 (isV_1 a2).2 a3 a4)
  refine ⟨x, σ', τ', ?_, ?_, k3⟩
  · rw [e1, bd_s]
    exact k1
  · rw [nm_W, e2, bd_s]
    exact k2
theorem bound2 {m V : Nat} {σ τ : Wd} {d : MD} {p L W q : Int} {dl pl : Nat → Int} (hm : 10 < m) (h : QM m σ τ V d p L W dl pl) (h0 : 0 ≤ q) (h1 : q ≤ 120) :
    ∃ (σ' τ' : Wd) (x y : Int32), f_X0_measure m (I q) σ = some (0, σ') ∧ f_X7_boundOf (I q) τ = some (x, τ') ∧ σ'.1 10 0 = x ∧ σ'.1 10 1 = y ∧ τ'.1 102 39 = y ∧ (∀ k, k ≠ 10 → σ'.1 k = σ.1 k) ∧ QF σ σ' ∧ RQ τ τ' ∧ (∀ i, i ≠ 39 → τ'.1 102 i = τ.1 102 i) := by
  obtain ⟨n, rfl, n1⟩ := nat_of h0 h1
  obtain ⟨σ', a1, a2, a3, a4, a5⟩ := cBound (q := n) hm h.1 (QM_p h) n1 h.2.1 h.2.2.2.1.1
  obtain ⟨τ', b1, b2, b3, b4, b5⟩ := rBound (q := n) h.1 (QM_p h) n1 h.2.2.1 h.2.2.2.1.2.1
  exact ⟨σ', τ', _, _, a1, b1, a2, a3, b2, a4, ⟨fun k hk => a4 k (by omega), a5⟩, ⟨fun k k1 _ => b3 k k1, fun i hi => b4 i (by omega), b5⟩, b4⟩
theorem m_share (x y : Int32) : MT (f_X6_share x y) (f_X7_share x y) := by
  intro σ τ B ⟨m, V, E, pres, kp, d, p, L, W, dl, pl, et, b, t, s, rd, h, n, g, hG⟩ hB
  obtain ⟨q, rfl, hq⟩ := argI x
  obtain ⟨v, rfl, hv⟩ := argI y
  obtain ⟨bm, m10, m63⟩ := bMm hG.1
  obtain ⟨x, σ', τ', k1, k2, k3, k4⟩ := amtv_ok (v := v) (low := I (-1)) (K := fun σ4 => gd (bM (σ4.2.2 0 4)) (bd (f_X1_choose (σ4.2.2 0 4) (I q) (I (-1)) σ4) fun _ σ6 => gd (inb (I v) 5) (some (σ6.1 5 (ix (I v)), σ6)))) (K' := fun σ5 => bd (f_X7_laysBest (I q) (I (-1)) σ5) fun _ σ6 => gd (inb (I v) 5) (bd (f_X7_good (σ6.1 117 (ix (I v))) σ6) fun r7 σ8 => some (r7, σ8))) (Rf := f_X7_refused)
    hG hq hv (fun c τ => refR) (fun _ v0 v1 q1 q2 σ2 τ3 hM hm => by
      obtain ⟨σ', τ', U, C, sh, e1, e2, e3, e4, e5, e7, e8, e9, e10⟩ := best2 (but := -1) m10 hM (show 0 ≤ q by omega) q2 (by unfold R; omega)
      have h5 := hM.1.1
      have i1 : inb (I v) 5 = true := I_inb v0 (by omega) (by decide)
      have i2 : ix (I v) = v.toNat := I_ix v0 (by omega)
      obtain ⟨s1, s2⟩ := e7 v.toNat (by omega)
      exact ⟨sh v.toNat, σ', τ', by rw [hm, bm, gd_t, e1, bd_s, i1, gd_t, i2, s1], by rw [e2, bd_s, i1, gd_t, i2, s2], e8, e9⟩)
  exact ⟨x, σ', τ', k1, k2, ⟨m, V, E, pres, kp, d, p, L, W, dl, pl, et, b, t, s, rd, h, n, g, GA_B k3 (by omega)⟩, k4⟩
theorem m_bound (x : Int32) : MT (f_X6_bound x) (f_X7_bound x) := by
  intro σ τ B ⟨m, V, E, pres, kp, d, p, L, W, dl, pl, et, b, t, s, rd, h, n, g, hG⟩ hB
  obtain ⟨q, rfl, hq⟩ := argI x
  obtain ⟨bm, m10, m63⟩ := bMm hG.1
  obtain ⟨x, σ', τ', k1, k2, k3, k4⟩ := amt_ok (a := 1) (a' := 1) (low := I (-2147483648)) (K := fun σ2 => gd (bM (σ2.2.2 0 4)) (bd (f_X0_measure (σ2.2.2 0 4) (I q) σ2) fun _ σ4 => some (σ4.1 10 0, σ4))) (K' := fun σ3 => bd (f_X7_boundOf (I q) σ3) fun r4 σ5 => bd (f_X7_good r4 σ5) fun r6 σ7 => (f_X7_bound_33 r6 σ7)) (Rf := f_X7_refusedLow)
    hG hq (by omega) (by omega) (fun _ => rfl) (fun c τ => refL) (fun _ _ q1 q2 σ2 τ3 hM hm => by
      obtain ⟨σ', τ', x, y, e1, e2, e3, e4, e5, e6, e7, e8, e9⟩ := bound2 m10 hM (show 0 ≤ q by omega) q2
      exact ⟨x, σ', τ', by rw [hm, bm, gd_t, e1, bd_s, e3], by rw [e2, bd_s]; rfl, e7, e8⟩)
  exact ⟨x, σ', τ', k1, k2, ⟨m, V, E, pres, kp, d, p, L, W, dl, pl, et, b, t, s, rd, h, n, g, GA_B k3 (by omega)⟩, k4⟩
theorem m_margin (x : Int32) : MT (f_X6_margin x) (f_X7_margin x) := by
  intro σ τ B ⟨m, V, E, pres, kp, d, p, L, W, dl, pl, et, b, t, s, rd, h, n, g, hG⟩ hB
  obtain ⟨q, rfl, hq⟩ := argI x
  obtain ⟨bm, m10, m63⟩ := bMm hG.1
  obtain ⟨x, σ', τ', k1, k2, k3, k4⟩ := amt_ok (a := 1) (a' := 1) (low := I (-2147483648)) (K := fun σ2 => gd (bM (σ2.2.2 0 4)) (bd (f_X0_measure (σ2.2.2 0 4) (I q) σ2) fun _ σ4 => some (σ4.1 10 1, σ4))) (K' := fun σ3 => bd (f_X7_boundOf (I q) σ3) fun r4 σ5 => bd (f_X7_good (σ5.1 102 39) σ5) fun r6 σ7 => some (r6, σ7)) (Rf := f_X7_refusedLow)
    hG hq (by omega) (by omega) (fun _ => rfl) (fun c τ => refL) (fun _ _ q1 q2 σ2 τ3 hM hm => by
      obtain ⟨σ', τ', x, y, e1, e2, e3, e4, e5, e6, e7, e8, e9⟩ := bound2 m10 hM (show 0 ≤ q by omega) q2
      exact ⟨y, σ', τ', by rw [hm, bm, gd_t, e1, bd_s, e4], by rw [e2, bd_s, e5], e7, e8⟩)
  exact ⟨x, σ', τ', k1, k2, ⟨m, V, E, pres, kp, d, p, L, W, dl, pl, et, b, t, s, rd, h, n, g, GA_B k3 (by omega)⟩, k4⟩
theorem m_gap (x : Int32) : MT (f_X6_gap x) (f_X7_gap x) := by
  intro σ τ B ⟨m, V, E, pres, kp, d, p, L, W, dl, pl, et, b, t, s, rd, h, n, g, hG⟩ hB
  obtain ⟨q, rfl, hq⟩ := argI x
  obtain ⟨bm, m10, m63⟩ := bMm hG.1
  obtain ⟨x, σ', τ', k1, k2, k3, k4⟩ := amt_ok (a := 1) (a' := 1) (low := I (-1)) (K := fun σ2 => gd (bM (σ2.2.2 0 4)) (bd (f_X1_choose (σ2.2.2 0 4) (I q) (I (-1)) σ2) fun _ σ4 => gd (bM (σ4.2.2 0 4)) (bd (f_X0_measure (σ4.2.2 0 4) (σ4.1 4 0) σ4) fun _ σ6 => some ((σ6.1 4 1) - (σ6.1 10 0), σ6)))) (K' := fun σ3 => bd (f_X7_laysBest (I q) (I (-1)) σ3) fun _ σ4 => bd (f_X7_boundOf (σ4.1 102 37) σ4) fun r5 σ6 => bd (f_X7_good ((σ4.1 102 38) - r5) σ6) fun r7 σ8 => some (r7, σ8)) (Rf := f_X7_refused)
    hG hq (by omega) (by omega) (fun _ => rfl) (fun c τ => refR) (fun _ _ q1 q2 σ2 τ3 hM hm => by
      obtain ⟨σ1, τ1, U, C, sh, e1, e2, e3, ⟨e4, e4'⟩, ⟨e5, e5'⟩, e7, e8, e9, e10⟩ := best2 (but := -1) m10 hM (show 0 ≤ q by omega) q2 (by unfold R; omega)
      obtain ⟨σ', τ', x, y, f1, f2, f3, f4, f5, f6, f7, f8, f9⟩ := bound2 (q := (U : Int)) m10 e10 (by omega) (by omega)
      have hm1 : σ1.2.2 0 4 = m := by rw [e8.2]; exact hm
      exact ⟨C - x, σ', τ', by rw [hm, bm, gd_t, e1, bd_s, hm1, bm, gd_t, e4, f1, bd_s, f6 4 (by decide), e5, f3], by rw [e2, bd_s, e4', f2, bd_s, e5'], QF_trans e8 f7, RQ_trans e9 f8⟩)
  exact ⟨x, σ', τ', k1, k2, ⟨m, V, E, pres, kp, d, p, L, W, dl, pl, et, b, t, s, rd, h, n, g, GA_B k3 (by omega)⟩, k4⟩
theorem m_worth (x y : Int32) : MT (f_X6_worth x y) (f_X7_worth x y) := by
  intro σ τ B ⟨m, V, E, pres, kp, d, p, L, W, dl, pl, et, b, t, s, rd, h, n, g, hG⟩ hB
  obtain ⟨q, rfl, hq⟩ := argI x
  obtain ⟨v, rfl, hv⟩ := argI y
  obtain ⟨bm, m10, m63⟩ := bMm hG.1
  obtain ⟨x, σ', τ', k1, k2, k3, k4⟩ := amtv_ok (v := v) (low := I (-1)) (K := fun σ4 => gd (bM (σ4.2.2 0 4)) (bd (f_X1_choose (σ4.2.2 0 4) (I q) (I (-1)) σ4) fun _ σ6 => gd (bM (σ6.2.2 0 4)) (bd (f_X1_choose (σ6.2.2 0 4) (I q) (I v) σ6) fun _ σ8 => if (σ6.1 4 0) ≤ (σ8.1 4 0) then (f_X6_worth_84 ((σ8.1 4 1) - (σ6.1 4 1)) σ8) else (f_X6_worth_84 (I (-2)) σ8)))) (K' := fun σ5 => bd (f_X7_laysBest (I q) (I (-1)) σ5) fun _ σ6 => bd (f_X7_laysBest (I q) (I v) σ6) fun _ σ7 => if (σ6.1 102 37) ≤ (σ7.1 102 37) then (f_X7_worth_72 ((σ7.1 102 38) - (σ6.1 102 38)) σ7) else (f_X7_worth_72 (I (-2)) σ7)) (Rf := f_X7_refused)
    hG hq hv (fun c τ => refR) (fun _ v0 v1 q1 q2 σ2 τ3 hM hm => by
      obtain ⟨σ1, τ1, U, C, sh, e1, e2, e3, ⟨e4, e4'⟩, ⟨e5, e5'⟩, e7, e8, e9, e10⟩ := best2 (but := -1) m10 hM (show 0 ≤ q by omega) q2 (by unfold R; omega)
      obtain ⟨σ', τ', U', C', sh', f1, f2, f3, ⟨f4, f4'⟩, ⟨f5, f5'⟩, f7, f8, f9, f10⟩ := best2 (but := v) m10 e10 (show 0 ≤ q by omega) q2 hv
      have hm1 : σ1.2.2 0 4 = m := by rw [e8.2]; exact hm
      by_cases c : I (U : Int) ≤ I (U' : Int)
      · exact ⟨C' - C, σ', τ', by rw [hm, bm, gd_t, e1, bd_s, hm1, bm, gd_t, f1, bd_s, e4, f4, if_pos c, e5, f5]; rfl, by rw [e2, bd_s, f2, bd_s, e4', f4', if_pos c, e5', f5']; rfl, QF_trans e8 f8, RQ_trans e9 f9⟩
      · exact ⟨I (-2), σ', τ', by rw [hm, bm, gd_t, e1, bd_s, hm1, bm, gd_t, f1, bd_s, e4, f4, if_neg c]; rfl, by rw [e2, bd_s, f2, bd_s, e4', f4', if_neg c]; rfl, QF_trans e8 f8, RQ_trans e9 f9⟩)
  exact ⟨x, σ', τ', k1, k2, ⟨m, V, E, pres, kp, d, p, L, W, dl, pl, et, b, t, s, rd, h, n, g, GA_B k3 (by omega)⟩, k4⟩
theorem m_fewest (x : Int32) : MT (f_X6_fewest x) (f_X7_fewest x) := by
  intro σ τ B ⟨m, V, E, pres, kp, d, p, L, W, dl, pl, et, b, t, s, rd, h, n, g, hG⟩ hB
  obtain ⟨q, rfl, hq⟩ := argI x
  obtain ⟨bm, m10, m63⟩ := bMm hG.1
  obtain ⟨x, σ', τ', k1, k2, k3, k4⟩ := amt_ok (a := 1) (a' := 1) (low := I (-1)) (K := fun σ2 => gd (bM (σ2.2.2 0 4)) (bd (f_X1_fewestVenues (σ2.2.2 0 4) (I q) σ2) fun r4 σ5 => some (r4, σ5))) (K' := fun σ3 => r_few (I q) σ3) (Rf := f_X7_refused)
    hG hq (by omega) (by omega) (fun _ => rfl) (fun c τ => refR) (fun _ _ q1 q2 σ2 τ3 hM hm => by
      obtain ⟨n, hn, n1⟩ := nat_of (show 0 ≤ q by omega) q2
      obtain ⟨σ', a1, a2, a3⟩ := cFewest (q := n) m10 hM.1 (QM_p hM) n1 hM.2.1 hM.2.2.2.1.1
      obtain ⟨τ', b1, b2, b3⟩ := rFewest (q := n) hM.1 (QM_p hM) n1 hM.2.2.1 hM.2.2.2.1.2.1
      rw [← hn] at a1 b1
      exact ⟨_, σ', τ', by rw [hm, bm, gd_t, a1, bd_s], b1, ⟨fun k hk => a2 k (by omega), a3⟩, ⟨fun k _ hk => b2 k (by omega), fun i _ => by rw [b2 102 (by decide)], b3⟩⟩)
  exact ⟨x, σ', τ', k1, k2, ⟨m, V, E, pres, kp, d, p, L, W, dl, pl, et, b, t, s, rd, h, n, g, GA_B k3 (by omega)⟩, k4⟩
