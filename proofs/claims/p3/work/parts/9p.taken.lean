/-! PURE: a text taken over, on both sides -/
theorem pu_0 {f : Nat → Int} : ∀ (r v : Nat), (∀ w, f w = 0) → pu f r v = 0
  | 0, _, _ => rfl
  | r + 1, v, h => by
    show f v + pu f r (v + 1) = 0
    rw [h v, pu_0 r (v + 1) h]
    rfl
theorem tO_eq {τ : Wd} {x y v e : Int32} (h17 : τ.1 102 17 = x) (h18 : τ.1 102 18 = y) (h19 : τ.1 102 19 = v) (h20 : τ.1 102 20 = e) : f_X7_takesOver τ = f_X7_takesOver_44 FU (I 0) (wi (wi (wi (wi (wi (wi τ 102 21 (I 1)) 102 25 (I 0)) 102 12 x) 102 13 y) 102 14 v) 102 15 e) := by
  subst h17 h18 h19 h20
  unfold f_X7_takesOver
  rw [show isb (1 : Int32) = true from rfl, gd_t, nm_W, show isb (0 : Int32) = true from rfl, gd_t, nm_W, nm_W, nm_W, nm_W, nm_W]
  simp (disch := omega) only [wi_eq, wi_eq', wi_ne, wi_row, wi_2]
  rfl
theorem rOver {m V E : Nat} {σ τ : Wd} {W p L : Int} {d : MD} {dl et : Nat → Int} (hP : PRD m σ τ W p L V E d dl et) (hW : W ≠ 0) :
    ∃ τ', f_X7_takesOver τ = some (0, τ') ∧ RV τ' V d ∧ (τ'.1 102 12 = I p ∧ τ'.1 102 13 = I L ∧ τ'.1 102 15 = I (E : Int) ∧ τ'.1 102 21 = I 1 ∧ τ'.1 102 25 = I 0 ∧ τ'.1 112 35 = I W) ∧ (∀ v, v < V → τ'.1 103 (5 * v + 3) = I (dl v)) ∧ (∀ j, j < 40 → τ'.1 105 j = τ.1 108 j) ∧ (∀ w, w < V → TD τ' τ d.lv w) ∧ (∀ j, 36 ≤ j → j < 48 ∨ (88 ≤ j ∧ j < 179) → τ'.1 112 j = I 0)
      ∧ (∀ k, k ≠ 102 → k < 103 ∨ 105 < k → k ≠ 112 → τ'.1 k = τ.1 k) ∧ (∀ i, i < 12 ∨ 15 < i → i ≠ 21 → i ≠ 25 → τ'.1 102 i = τ.1 102 i) ∧ τ'.2 = τ.2 := by
  obtain ⟨⟨p0, p16, pW0, pW1, pW2⟩, pp, ⟨q1, q2, q3⟩, -, q5, -, q8⟩ := hP
  obtain ⟨⟨-, p17, -⟩, ⟨-, p18, -⟩⟩ := pp hW
  obtain ⟨τ0, hτ0⟩ : ∃ s, s = wi (wi (wi (wi (wi (wi τ 102 21 (I 1)) 102 25 (I 0)) 102 12 (I p)) 102 13 (I L)) 102 14 (I (V : Int))) 102 15 (I (E : Int)) := ⟨_, rfl⟩
  have r0 : ∀ k, k ≠ 102 → τ0.1 k = τ.1 k := fun k h => by rw [hτ0, wi_row h, wi_row h, wi_row h, wi_row h, wi_row h, wi_row h]
  have v0 : ∀ i, i < 12 ∨ 15 < i → i ≠ 21 → i ≠ 25 → τ0.1 102 i = τ.1 102 i := fun i h1 h2 h3 => by rw [hτ0, wi_ne (by omega), wi_ne (by omega), wi_ne (by omega), wi_ne (by omega), wi_ne h3, wi_ne h2]
  obtain ⟨τ1, a1, a2, a3, a4⟩ := tO44 25 0 FU 0 τ0 rfl rfl (by decide) (fun j hj => absurd hj (by omega))
  obtain ⟨τ2, b1, b2, b3, b4⟩ := tO70 30 0 FU 0 τ1 rfl rfl (by decide) (fun j hj => absurd hj (by omega))
  obtain ⟨τ3, c1, c2, c3, c4⟩ := tO96 40 0 FU 0 τ2 rfl rfl (by decide) (fun j hj => absurd hj (by omega))
  obtain ⟨τ4, d1, d2, d3, d4⟩ := tO122 179 0 FU 0 τ3 rfl rfl (by decide) (fun j hj => absurd hj (by omega))
  obtain ⟨τ5, hτ5⟩ : ∃ s, s = wi τ4 112 35 (τ3.1 102 16) := ⟨_, rfl⟩
  have r5 : ∀ k, k ≠ 112 → τ5.1 k = τ3.1 k := fun k h => by rw [hτ5, wi_row h, d3 k h]
  have f2 : ∀ i, τ5.1 102 i = τ0.1 102 i := fun i => by rw [r5 102 (by decide), c3 102 (by decide), b3 102 (by decide), a3 102 (by decide)]
  have f103 : ∀ j, j < 25 → τ5.1 103 j = τ.1 106 j := fun j hj => by rw [r5 103 (by decide), c3 103 (by decide), b3 103 (by decide), a2 j hj, r0 106 (by decide)]
  have f104 : ∀ j, j < 30 → τ5.1 104 j = τ.1 107 j := fun j hj => by rw [r5 104 (by decide), c3 104 (by decide), b2 j hj, a3 107 (by decide), r0 107 (by decide)]
  have f105 : ∀ j, j < 40 → τ5.1 105 j = τ.1 108 j := fun j hj => by rw [r5 105 (by decide), c2 j hj, b3 108 (by decide), a3 108 (by decide), r0 108 (by decide)]
  have fo : ∀ k, k ≠ 102 → k < 103 ∨ 105 < k → k ≠ 112 → τ5.1 k = τ.1 k := fun k h1 h2 h3 => by rw [r5 k h3, c3 k (by omega), b3 k (by omega), a3 k (by omega), r0 k h1]
  have V5 := q1.1
  have l6 : ∀ v, v < V → d.lv v ≤ 6 := fun v hv => (q1.2 v hv).2.2.2.2.1
  obtain ⟨τ', e1, e2, e3, e4, e5⟩ := tO155 (V := V) (lv := d.lv) (τ0 := τ) V5 l6 V 0 FU 0 τ5 rfl (by omega) (by show _ < 6000; omega) (by rw [f2, hτ0, wi_ne (by decide), wi_eq]) (fun v hv => by rw [f103 _ (by omega)]; exact (q5 v hv).2.2.2.2.2.1.2) (fo 109 (by decide) (by decide) (by decide)) (fo 110 (by decide) (by decide) (by decide)) (fun w hw => absurd hw (by omega))
  have g2 : ∀ i, τ'.1 102 i = τ0.1 102 i := fun i => by rw [e4 102 (by decide), f2]
  refine ⟨τ', ?_, ⟨?_, fun v hv => ?_⟩, ⟨?_, ?_, ?_, ?_, ?_, ?_⟩, fun v hv => ?_, fun j hj => ?_, e2, fun j j1 j2 => ?_, fun k k1 k2 k3 => by rw [e4 k k3, fo k k1 k2 k3], fun i i1 i2 i3 => by rw [g2, v0 i i1 i2 i3], ?_⟩
  · have key := tO_eq p17 p18 q3 q8.2.2.1
    rw [← hτ0] at key
    rw [key, a1, b1, c1, d1, ← hτ5, e1]
  · rw [g2, hτ0, wi_ne (by decide), wi_eq]
  · obtain ⟨y1, y2, y3, y4, y5, y6, y7⟩ := q5 v hv
    obtain ⟨t1, t2, -⟩ := e2 v hv
    have lv := l6 v hv
    refine ⟨?_, ?_, ?_, ?_, ?_, fun k hk => ⟨?_, ?_⟩⟩
    · rw [e4 103 (by decide), f103 _ (by omega)]; exact y1.2
    · rw [e4 103 (by decide), f103 _ (by omega)]; exact y2.2
    · rw [t1]; exact y3.2
    · rw [e4 103 (by decide), f103 _ (by omega)]; exact y4.2
    · rw [e4 103 (by decide), f103 _ (by omega)]; exact y6.2
    · have hk : k < d.lv v := hk
      rw [e4 104 (by decide), f104 _ (by omega)]; exact (y7 k hk).1.2
    · rw [t2 k hk]; exact (y7 k hk).2.2
  · rw [g2, hτ0, wi_ne (by decide), wi_ne (by decide), wi_ne (by decide), wi_eq]
  · rw [g2, hτ0, wi_ne (by decide), wi_ne (by decide), wi_eq]
  · rw [g2, hτ0, wi_eq]
  · rw [g2, hτ0, wi_ne (by decide), wi_ne (by decide), wi_ne (by decide), wi_ne (by decide), wi_ne (by decide), wi_eq]
  · rw [g2, hτ0, wi_ne (by decide), wi_ne (by decide), wi_ne (by decide), wi_ne (by decide), wi_eq]
  · rw [e3 35 (by decide) (by decide), hτ5, wi_eq, c3 102 (by decide), b3 102 (by decide), a3 102 (by decide), v0 16 (by decide) (by decide) (by decide)]; exact p16
  · rw [e4 103 (by decide), f103 _ (by omega)]; exact (q5 v hv).2.2.2.2.1.2.1
  · rw [e4 105 (by decide), f105 j hj]
  · rw [e3 j (by omega) (by omega), hτ5, wi_ne (by omega), d2 j (by omega)]
  · rw [e5, hτ5, wi_2, d4, c4, b4, a4, hτ0]; rfl
theorem taken_ok {m V E : Nat} {σ τ σ' τ' : Wd} {W p L : Int} {d : MD} {dl et : Nat → Int} (hm : 10 < m) (hP : PRD m σ τ W p L V E d dl et) (hW : W ≠ 0)
    (c1 : ∀ k, m ≤ k → k ≤ m + 12 → σ'.1 k = σ.1 k) (h63 : ∀ i, i < 8 → σ'.1 63 i = I 0) (hp : ∀ v, v < 5 → (∀ k, 64 ≤ k → k ≤ 69 → σ'.1 k v = I 0) ∧ σ'.1 70 v = I (-2) ∧ σ'.1 71 v = I (-2)) (h72 : σ'.1 72 0 = I 0)
    (rv : RV τ' V d) (rc : τ'.1 102 12 = I p ∧ τ'.1 102 13 = I L ∧ τ'.1 102 15 = I (E : Int) ∧ τ'.1 102 21 = I 1 ∧ τ'.1 102 25 = I 0 ∧ τ'.1 112 35 = I W) (rd : ∀ v, v < V → τ'.1 103 (5 * v + 3) = I (dl v)) (re : ∀ j, j < 40 → τ'.1 105 j = τ.1 108 j) (rt : ∀ w, w < V → TD τ' τ d.lv w) (r0 : ∀ j, 36 ≤ j → j < 48 ∨ (88 ≤ j ∧ j < 179) → τ'.1 112 j = I 0) :
    QQ m 63 σ' τ' V E d p L W dl (fun _ => 0) et false 0 0 0 (fun _ => 0) (fun _ => 0) (fun _ => 0) := by
  obtain ⟨⟨p0, p16, pW0, pW1, pW2⟩, pp, ⟨q1, q2, q3⟩, -, q5, ⟨q6, q7⟩, ⟨x1, x2, x3, x4, x5⟩⟩ := hP
  obtain ⟨⟨pp1, -, pp2, pp3⟩, ⟨pl1, -, pl2, pl3⟩⟩ := pp hW
  have V5 := q1.1
  refine ⟨⟨q1, ⟨?_, fun v hv => ?_⟩, rv, ⟨?_, rc.1, by omega, pp3⟩, ⟨?_, rc.2.1, by omega, pl3, fun _ => pl2⟩, ⟨?_, rc.2.2.2.2.2, pW0, pW1⟩, fun v hv => ?_, fun v hv => ⟨?_, r0 _ (by omega) (by omega), (show (0 : Int) ≤ 0 from Int.le_refl _), (show (0 : Int) ≤ 120 by decide)⟩⟩, ⟨x1, ?_, rc.2.2.1, fun i hi => ?_, x5⟩, ?_, ⟨0, h63 7 (by decide), Nat.zero_le _, fun i hi => absurd hi (by omega), fun i _ hi => ?_⟩, fun w hw => ?_, ⟨0, fun i => i, by decide, h72, r0 88 (by decide) (by decide), fun i hi => absurd hi (by omega), fun i _ hi => absurd hi (by omega)⟩, ⟨fun _ _ => Int.le_refl _, by rw [pu_0 _ _ (fun _ => rfl)]; exact Int.le_refl _⟩, ⟨h63 6 (by decide), by decide, by decide⟩, fun _ => rfl, fun _ => ⟨fun _ _ => rfl, fun q => by cases q⟩⟩
  · rw [c1 m (by omega) (by omega)]; exact q2
  · obtain ⟨y1, y2, y3, y4, y5, y6, y7⟩ := q5 v hv
    rw [c1 (m + 1) (by omega) (by omega), c1 (m + 2) (by omega) (by omega), c1 (m + 3) (by omega) (by omega), c1 (m + 4) (by omega) (by omega), c1 (m + 6) (by omega) (by omega), c1 (m + 8) (by omega) (by omega), c1 (m + 9) (by omega) (by omega)]
    exact ⟨y1.1, y2.1, y3.1, y4.1, y6.1, fun k hk => ⟨(y7 k hk).1.1, (y7 k hk).2.1⟩⟩
  · rw [c1 m (by omega) (by omega)]; exact pp1
  · rw [c1 m (by omega) (by omega)]; exact pl1
  · rw [c1 m (by omega) (by omega)]; exact p0
  · obtain ⟨y1, y2, y3, y4, y5, y6, y7⟩ := q5 v hv
    rw [c1 (m + 5) (by omega) (by omega)]
    exact ⟨y5.1, rd v hv, y5.2.2.1, y5.2.2.2⟩
  · rw [c1 (m + 7) (by omega) (by omega)]; exact q7 v (by omega)
  · rw [c1 m (by omega) (by omega)]; exact x2
  · rw [c1 (m + 10) (by omega) (by omega), c1 (m + 11) (by omega) (by omega), c1 (m + 12) (by omega) (by omega), re _ (by omega), re _ (by omega), re _ (by omega), re _ (by omega)]
    exact x4 i hi
  · refine ⟨⟨h63 0 (by decide), r0 36 (by decide) (by decide)⟩, ⟨h63 1 (by decide), r0 37 (by decide) (by decide), by decide, by decide⟩, ⟨h63 2 (by decide), r0 38 (by decide) (by decide), by decide, by decide⟩, ?_, ?_, ?_, ?_⟩
    · rw [r0 39 (by decide) (by decide), h63 3 (by decide)]
    · rw [r0 40 (by decide) (by decide), h63 4 (by decide)]
    · rw [r0 41 (by decide) (by decide), h63 5 (by decide)]
    · rw [r0 42 (by decide) (by decide), h63 6 (by decide)]
  · obtain ⟨a, k, z, -, -, -, -, y1, -⟩ := x4 i hi
    omega
  · obtain ⟨h1, h2, h3⟩ := hp w (by omega)
    obtain ⟨-, -, t3, t4, t5⟩ := rt w hw
    have u0 := t3 0 (by decide) (by decide) (by decide)
    have u1 := t3 1 (by decide) (by decide) (by decide)
    have u2 := t3 2 (by decide) (by decide) (by decide)
    have u3 := t3 3 (by decide) (by decide) (by decide)
    have u4 := t3 4 (by decide) (by decide) (by decide)
    have u7 := t3 7 (by decide) (by decide) (by decide)
    refine ⟨⟨h1 64 (by decide) (by decide), ?_⟩, ⟨h1 65 (by decide) (by decide), ?_⟩, ⟨h1 66 (by decide) (by decide), ?_⟩, ?_, ⟨0, by decide, by decide, h1 69 (by decide) (by decide), ?_⟩, ⟨-2, -2, h2, ?_, by decide, by decide, fun q => absurd rfl q, ?_, by decide, by decide, fun (q : (0 : Int) = 1 ∨ (0 : Int) = 2) => by omega, fun (q : (0 : Int) = 1) => absurd q (by decide), fun _ => ⟨h3, rfl⟩⟩, fun (q : (0 : Int) = 1 ∨ (0 : Int) = 2) => by omega, (show (0 : Int) ≤ 120 by decide), Or.inl ⟨rfl, rfl, rfl⟩⟩
    · exact u0
    · rw [show 49 + 8 * w = 48 + 8 * w + 1 by omega]; exact u1
    · rw [show 50 + 8 * w = 48 + 8 * w + 2 by omega]; exact u2
    · rw [show 51 + 8 * w = 48 + 8 * w + 3 by omega, u3]; exact (h1 68 (by decide) (by decide)).symm
    · rw [show 52 + 8 * w = 48 + 8 * w + 4 by omega]; exact u4
    · rw [show 53 + 8 * w = 48 + 8 * w + 5 by omega]; exact t4
    · rw [show 54 + 8 * w = 48 + 8 * w + 6 by omega]; exact t5
