/-! PURE: a round begins, in step -/
theorem QM_rows {m : Nat} {σ τ σ' τ' : Wd} {V : Nat} {d : MD} {p L W : Int} {dl pl : Nat → Int} (h : QM m σ τ V d p L W dl pl) (c : ∀ k, m ≤ k → k ≤ m + 9 → σ'.1 k = σ.1 k) (e2 : ∀ i, 12 ≤ i → i ≤ 14 → τ'.1 102 i = τ.1 102 i) (e3 : τ'.1 103 = τ.1 103) (e4 : τ'.1 104 = τ.1 104) (e5 : ∀ i, i < 36 ∨ (43 ≤ i ∧ i < 48) → τ'.1 112 i = τ.1 112 i) : QM m σ' τ' V d p L W dl pl :=
  QM_congr h h.1 (CV_rows h.2.1 c) (RV_cells h.2.2.1 h.1.1 (lv6 h.1) (e2 14 (by decide) (by decide)) e3 e4 (fun i hi => e5 i (by omega))) (fun i hi => by rw [c m (by omega) (by omega)]) (c _ (by omega) (by omega)) (c _ (by omega) (by omega)) (e2 12 (by decide) (by decide)) (e2 13 (by decide) (by decide)) e3 (e5 35 (by omega)) (fun v hv => e5 _ (by omega))
theorem QR_rows {r : Nat} {σ τ σ' τ' : Wd} {b : Bool} {t s : Int} (h : QR r σ τ b t s) (c : ∀ i, i < 6 → σ'.1 r i = σ.1 r i) (e : ∀ i, 36 ≤ i → i < 42 → τ'.1 112 i = τ.1 112 i) (e6 : τ'.1 112 42 = σ'.1 r 6) : QR r σ' τ' b t s := by
  obtain ⟨⟨r0, r0'⟩, ⟨r1, r1', t0, t1⟩, ⟨r2, r2', s0, s1⟩, r3, r4, r5, r6⟩ := h
  refine ⟨⟨?_, ?_⟩, ⟨?_, ?_, t0, t1⟩, ⟨?_, ?_, s0, s1⟩, ?_, ?_, ?_, e6⟩
  · rw [c 0 (by decide)]; exact r0
  · rw [e 36 (by decide) (by decide)]; exact r0'
  · rw [c 1 (by decide)]; exact r1
  · rw [e 37 (by decide) (by decide)]; exact r1'
  · rw [c 2 (by decide)]; exact r2
  · rw [e 38 (by decide) (by decide)]; exact r2'
  · rw [c 3 (by decide), e 39 (by decide) (by decide)]; exact r3
  · rw [c 4 (by decide), e 40 (by decide) (by decide)]; exact r4
  · rw [c 5 (by decide), e 41 (by decide) (by decide)]; exact r5
set_option maxHeartbeats 1000000 in
/-- the sending, once the shares stand -/
theorem round_go {m r V : Nat} {d : MD} {σ τ σ1 τ2 : Wd} {p L W : Int} {dl pl : Nat → Int} {b bp : Bool} {t s rd : Int} {h n g sh : Nat → Int} (hm : 10 < m) (hmr : m + 12 < r) (hM : QM m σ τ V d p L W dl pl) (hR : QR r σ τ b t s) (hL : LR (r + 9) σ τ V d) (hP : QPs r σ τ V t h n g) (h0 : ∀ w, w < V → h w = 0)
    (hsh : ∀ w, w < V → 0 ≤ sh w ∧ sh w ≤ 120) (hs : ∀ w, w < V → (if bp then σ1.1 (m + 7) w else σ1.1 5 w) = I (sh w) ∧ τ2.1 117 w = I (sh w)) (hsum : pu sh V 0 ≤ s)
    (c1 : ∀ k, k < 4 ∨ 9 < k → σ1.1 k = σ.1 k) (c2 : σ1.2 = σ.2) (e1 : ∀ k, k ≠ 102 → k ≠ 116 → k ≠ 117 → τ2.1 k = τ.1 k) (e2 : ∀ i, i ≠ 37 → i ≠ 38 → τ2.1 102 i = τ.1 102 i) (e3 : τ2.2 = τ.2) :
    ∃ (σ' τ' : Wd) (h' n' g' : Nat → Int) (c : Int), f_X4_startRound_85 r m FU (I (bn bp)) (I 0) (I 0) (wi σ1 r 6 (I (rd + 1))) = some (I c, σ') ∧ f_X7_beginsRound_112 FU (I 0) (I 0) (wi τ2 112 42 (I (rd + 1))) = some (I c, τ') ∧ QM m σ' τ' V d p L W dl pl ∧ QR r σ' τ' b t s ∧ LR (r + 9) σ' τ' V d ∧ QPs r σ' τ' V t h' n' g' ∧ pu n' V 0 ≤ s ∧ σ'.1 r 6 = I (rd + 1) ∧ RF m r σ τ σ' τ' := by
  have h5 := hM.1.1
  have fσ : ∀ k, k < 4 ∨ 9 < k → k ≠ r → (wi σ1 r 6 (I (rd + 1))).1 k = σ.1 k := fun k g1 g2 => by rw [wi_row g2, c1 k g1]
  have fτ : ∀ k, k ≠ 102 → k ≠ 112 → k ≠ 116 → k ≠ 117 → (wi τ2 112 42 (I (rd + 1))).1 k = τ.1 k := fun k g1 g2 g3 g4 => by rw [wi_row g2, e1 k g1 g3 g4]
  have f2 : ∀ i, i ≠ 37 → i ≠ 38 → (wi τ2 112 42 (I (rd + 1))).1 102 i = τ.1 102 i := fun i g1 g2 => by rw [wi_row (by decide), e2 i g1 g2]
  have fx : ∀ i, i ≠ 42 → (wi τ2 112 42 (I (rd + 1))).1 112 i = τ.1 112 i := fun i g1 => by rw [wi_ne g1, e1 112 (by decide) (by decide) (by decide)]
  obtain ⟨σ', τ', h', n', g', c, q1, q2, q3, q4, q5, q6, q7, q8, q9, q10, q11, q12⟩ := sends_ok (m := m) (r := r) (V := V) (d := d) (p := p) (L := L) (W := W) (dl := dl) (pl := pl) (b := b) (bp := bp) (t := t) (s := s) (sh := sh) hm hmr hsh V 0 FU FU 0 0 h n g (wi σ1 r 6 (I (rd + 1))) (wi τ2 112 42 (I (rd + 1))) rfl (by omega) (by show _ < 6000; omega) (by show _ < 6000; omega)
    (QM_rows hM (fun k g1 g2 => fσ k (by omega) (by omega)) (fun i g1 g2 => f2 i (by omega) (by omega)) (fτ 103 (by decide) (by decide) (by decide) (by decide)) (fτ 104 (by decide) (by decide) (by decide) (by decide)) (fun i hi => fx i (by omega)))
    (QR_rows hR (fun i hi => by rw [wi_ne (by omega), c1 r (by omega)]) (fun i g1 g2 => fx i (by omega)) (by rw [wi_eq, wi_eq]))
    (LR_congr hL rfl rfl (fun k g1 g2 => fσ k (by omega) (by omega)) (fun i hi => fx i (by omega)))
    (fun w hw => QP_congr (hP w hw) (fun k g1 g2 => by rw [fσ k (by omega) (by omega)]) (fun i g1 g2 => fx i (by omega)) (fτ 103 (by decide) (by decide) (by decide) (by decide)))
    (fun w _ hw => h0 w hw)
    (fun w hw => by rw [wi_row (show m + 7 ≠ r by omega), wi_row (show 5 ≠ r by omega), wi_row (show 117 ≠ 112 by decide)]; exact hs w hw)
  refine ⟨σ', τ', h', n', g', c, q1, q2, q3, q4, q5, q6, ?_, ?_, ⟨⟨fun k g1 g2 => ?_, fun i hi => ?_, ?_⟩, ⟨fun k g1 g2 g3 g4 => ?_, fun i g1 g2 => ?_, ?_⟩⟩⟩
  · rw [pu_congr (g := sh) V 0 (fun w g1 g2 => q8 w g1 (by omega))]
    exact hsum
  · rw [q9 r (by omega), wi_eq]
  · rw [q9 k (by omega), fσ k g1 (by omega)]
  · rw [q9 r (by omega), wi_ne hi, c1 r (by omega)]
  · rw [q10, wi_2, c2]
  · rw [q11 k g2, fτ k g1 g2 g3 g4]
  · rw [q11 102 (by decide), f2 i g1 g2]
  · rw [q12, wi_2, e3]
theorem RF_refl {m r : Nat} {σ τ : Wd} : RF m r σ τ σ τ := ⟨⟨fun _ _ _ => rfl, fun _ _ => rfl, rfl⟩, ⟨fun _ _ _ _ _ => rfl, fun _ _ _ => rfl, rfl⟩⟩
set_option maxHeartbeats 1000000 in
theorem round_ok {m r V : Nat} {d : MD} {σ τ : Wd} {p L W : Int} {dl pl : Nat → Int} {b : Bool} {t s rd : Int} {h n g : Nat → Int} (hm : 10 < m) (hmr : m + 12 < r) (hM : QM m σ τ V d p L W dl pl) (hR : QR r σ τ b t s) (hL : LR (r + 9) σ τ V d) (hP : QPs r σ τ V t h n g) (hsum : pu n V 0 ≤ s)
    (r6 : σ.1 r 6 = I rd) (rd0 : 0 ≤ rd) (rd1 : rd ≤ 1000001) (hW : rd = 0 → s = W) :
    ∃ (σ' τ' : Wd) (h' n' g' : Nat → Int) (c rd' : Int), f_X4_startRound r m σ = some (I c, σ') ∧ f_X7_beginsRound τ = some (I c, τ') ∧ QM m σ' τ' V d p L W dl pl ∧ QR r σ' τ' b t s ∧ LR (r + 9) σ' τ' V d ∧ QPs r σ' τ' V t h' n' g' ∧ pu n' V 0 ≤ s ∧ σ'.1 r 6 = I rd' ∧ ((rd' = rd ∧ h' = h) ∨ rd' = rd + 1) ∧ RF m r σ τ σ' τ' := by
  have h5 := hM.1.1
  have hd := hM.1
  have hp : R p := by have := hM.2.2.2.1; unfold R; omega
  have s0 := hR.2.2.1.2.2.1
  have s1 := hR.2.2.1.2.2.2
  have eu := c_nu (b := r) (σ := σ) hM.2.1.1 h5 V 0 FU 0 rfl (by omega) (by show _ < 6000; omega)
  have eu : f_X4_nothingUnderWay r m σ = some (I (bn (nu (σ.1 (r + 1)) V 0)), σ) := eu
  have ru := r_nu (τ := τ) (f := σ.1 (r + 1)) hM.2.2.1.1 h5 (fun v hv => by rw [(hP v hv).1.1, (hP v hv).1.2]) V 0 FU 0 rfl (by omega) (by show _ < 6000; omega)
  have ru : f_X7_isUnderWay τ = some (I (bn (!nu (σ.1 (r + 1)) V 0)), τ) := ru
  by_cases cx : nu (σ.1 (r + 1)) V 0 = false ∨ s = 0
  · exact ⟨σ, τ, h, n, g, 0, rd, sr_no h5 eu cx hR.2.2.1.1, br_no ru cx hR.2.2.1.2.1, hM, hR, hL, hP, hsum, r6, Or.inl ⟨rfl, rfl⟩, RF_refl⟩
  · have ex : nu (σ.1 (r + 1)) V 0 = true := by
      cases e : nu (σ.1 (r + 1)) V 0 with
      | true => rfl
      | false => exact absurd (Or.inl e) cx
    have sp : 0 < s := by omega
    rw [ex] at eu ru
    have eu : f_X4_nothingUnderWay r m σ = some (I 1, σ) := eu
    have ru : f_X7_isUnderWay τ = some (I 0, τ) := ru
    have h0 : ∀ w, w < V → h w = 0 := by
      intro w hw
      have a := nu_all V 0 ex w (by omega) (by omega)
      have q := (hP w hw).2.2.2.2.2.2.2.2
      rw [(hP w hw).1.1, show (0 : Int32) = I 0 from rfl, I_eq (by unfold R; omega) (by unfold R; omega)] at a
      exact a
    obtain ⟨q, hq⟩ := Int.eq_ofNat_of_zero_le s0
    have q120 : q ≤ 120 := by omega
    have hb : R (-1) := by unfold R; omega
    obtain ⟨τ1, b1, b2, b3, b4, b5, b6, b7⟩ := rBest (q := q) hd hp hb q120 hM.2.2.1 hM.2.2.2.1.2.1
    have eh := cHas (q := q) hM.2.1 hd hp hM.2.2.2.1.1 q120
    rw [← hq] at b1 eh
    have ub := bu_le (f := lcs d p (-1) V V) q
    have un : lcs d p (-1) V V (bu (lcs d p (-1) V V) q) ≠ none := bu_some (by rw [lcs_0]; exact fun h => by cases h) q
    by_cases cu : 0 < bu (lcs d p (-1) V V) q
    · rw [decide_eq_true cu] at eh
      have eh : f_X3_hasLotWithin m (I s) σ = some (I 1, σ) := eh
      have pb : PB pl V := fun v hv => (hM.2.2.2.2.2.2.2 v hv).2.2
      have pub := pu_bnd pb V 0 (by omega)
      have e3 := cPU hM.2.1.1 h5 (fun v hv => (hM.2.2.2.2.2.2.2 v hv).1)
      have hwR : R W := by have := hM.2.2.2.2.2.1; unfold R; omega
      have e4 := cPS hM.2.1 hd hp hM.2.2.2.1.1 hM.2.2.2.2.2.1.1 hwR pb (fun v hv => (hM.2.2.2.2.2.2.2 v hv).1)
      have x112 : τ1.1 112 = τ.1 112 := b5 112 (by decide) (by decide) (by decide)
      have hr1 : RV τ1 V d := RV_congr hM.2.2.1 (b6 14 (by decide) (by decide)) (b5 103 (by decide) (by decide) (by decide)) (b5 104 (by decide) (by decide) (by decide)) x112
      have e5 := rPU hr1.1 h5 (fun v hv => by rw [x112]; exact (hM.2.2.2.2.2.2.2 v hv).2.1)
      have e6 := rPS hr1 hd hp (by rw [b6 12 (by decide) (by decide)]; exact hM.2.2.2.1.2.1) (by rw [x112]; exact hM.2.2.2.2.2.1.2.1) hwR pb (fun v hv => by rw [x112]; exact (hM.2.2.2.2.2.2.2 v hv).2.1)
      have r42 : τ1.1 112 42 = I rd := by rw [x112, hR.2.2.2.2.2.2, r6]
      have g1 := sr_go eu hR.2.2.1.1 sp s1 eh r6 rd0 (by omega) e3 pub.1 (by omega) e4
      have g2 := br_go ru hR.2.2.1.2.1 sp s1 b1 b2 (by omega) (by omega) r42 rd0 (by omega) e5 pub.1 (by omega) e6
      cases hbp : (decide (rd = 0 ∧ 0 < pu pl V 0) && ps d p W pl V V 0) with
      | true =>
        rw [hbp] at g1 g2
        rw [if_pos rfl] at g2
        obtain ⟨hb1, hb2⟩ := Bool.and_eq_true_iff.mp hbp
        have hrd := (of_decide_eq_true hb1).1
        obtain ⟨τ2, t1, t2, t3, t4⟩ := r_pl (pl := pl) h5 V 0 FU 0 τ1 rfl (by omega) (by show _ < 6000; omega) hr1.1 (fun v hv => by rw [x112]; exact (hM.2.2.2.2.2.2.2 v hv).2.1) (fun w hw => absurd hw (by omega))
        obtain ⟨σ', τ', h', n', g', c, q1, q2, q3⟩ := round_go (σ1 := σ) (τ2 := τ2) (bp := true) (rd := rd) (sh := pl) hm hmr hM hR hL hP h0 pb (fun w hw => ⟨by rw [if_pos rfl]; exact (hM.2.2.2.2.2.2.2 w hw).1, t2 w hw⟩) (by have := ps_pu V 0 hb2; have := hW hrd; omega) (fun _ _ => rfl) rfl
          (fun k g1 g2 g3 => by rw [t3 k g3, b5 k g1 g2 g3]) (fun i g1 g2 => by rw [t3 102 (by decide), b6 i g1 g2]) (by rw [t4, b7])
        refine ⟨σ', τ', h', n', g', c, rd + 1, ?_, ?_, q3.1, q3.2.1, q3.2.2.1, q3.2.2.2.1, q3.2.2.2.2.1, q3.2.2.2.2.2.1, Or.inr rfl, q3.2.2.2.2.2.2⟩
        · rw [g1, sr_54 (σ1 := σ) hR.2.2.1.1 r6 (fun e => by cases e) (fun _ => rfl), q1]
        · rw [g2, t1, br_97 (rd := rd) (by rw [t3 112 (by decide)]; exact r42), q2]
      | false =>
        rw [hbp] at g1 g2
        rw [if_neg (show ¬ false = true by decide)] at g2
        obtain ⟨σ1, a1, a2, a3, a4, a5, a6⟩ := cChoose (q := q) hm hd hp hb q120 hM.2.1 hM.2.2.2.1.1
        rw [← hq] at a1
        have ss := shs_sum (p := p) (but := -1) hd V _ (Nat.le_refl _) un
        rw [Nat.sub_self] at ss
        obtain ⟨σ', τ', h', n', g', c, q1, q2, q3⟩ := round_go (σ1 := σ1) (τ2 := τ1) (bp := false) (rd := rd) (sh := fun v => (shs d p (-1) V V (bu (lcs d p (-1) V V) q) v : Int)) hm hmr hM hR hL hP h0
          (fun w hw => by
            have := (pu_ge (f := fun v => (shs d p (-1) V V (bu (lcs d p (-1) V V) q) v : Int)) (w := w) V 0 (fun _ _ _ => by show (0 : Int) ≤ ((_ : Nat) : Int); omega) (by omega) (by omega)).1
            rw [ss] at this
            have this : ((shs d p (-1) V V (bu (lcs d p (-1) V V) q) w : Nat) : Int) ≤ _ := this
            exact ⟨by show (0 : Int) ≤ ((_ : Nat) : Int); omega, by show ((shs d p (-1) V V (bu (lcs d p (-1) V V) q) w : Nat) : Int) ≤ 120; omega⟩)
          (fun w hw => ⟨by rw [if_neg (show ¬ false = true by decide)]; exact a4 w hw, b4 w hw⟩) (by rw [ss]; omega) a5 a6 b5 b6 b7
        refine ⟨σ', τ', h', n', g', c, rd + 1, ?_, ?_, q3.1, q3.2.1, q3.2.2.1, q3.2.2.2.1, q3.2.2.2.2.1, q3.2.2.2.2.2.1, Or.inr rfl, q3.2.2.2.2.2.2⟩
        · rw [g1, sr_54 (σ1 := σ1) hR.2.2.1.1 (by rw [a5 r (by omega)]; exact r6) (fun _ => a1) (fun e => by cases e), q1]
        · rw [g2, br_97 r42, q2]
    · rw [decide_eq_false cu] at eh
      have eh : f_X3_hasLotWithin m (I s) σ = some (I 0, σ) := eh
      have u0 : bu (lcs d p (-1) V V) q = 0 := by omega
      rw [u0] at b2
      have x112 : τ1.1 112 = τ.1 112 := b5 112 (by decide) (by decide) (by decide)
      refine ⟨σ, τ1, h, n, g, 0, rd, sr_nolot eu hR.2.2.1.1 sp s1 eh, br_nolot ru hR.2.2.1.2.1 sp s1 b1 b2, ?_, ?_, ?_, ?_, hsum, r6, Or.inl ⟨rfl, rfl⟩, ⟨⟨fun _ _ _ => rfl, fun _ _ => rfl, rfl⟩, ⟨fun k g1 g2 g3 g4 => b5 k g1 g3 g4, b6, b7⟩⟩⟩
      · exact QM_rows hM (fun _ _ _ => rfl) (fun i g1 g2 => b6 i (by omega) (by omega)) (b5 103 (by decide) (by decide) (by decide)) (b5 104 (by decide) (by decide) (by decide)) (fun i _ => by rw [x112])
      · exact QR_rows hR (fun _ _ => rfl) (fun i _ _ => by rw [x112]) (by rw [x112]; exact hR.2.2.2.2.2.2)
      · exact LR_congr hL rfl rfl (fun _ _ _ => rfl) (fun i _ => by rw [x112])
      · exact fun w hw => QP_congr (hP w hw) (fun _ _ _ => rfl) (fun i _ _ => by rw [x112]) (b5 103 (by decide) (by decide) (by decide))
