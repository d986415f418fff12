/-! PURE: the beginning; a call of the law -/
theorem GG_mix {σ τ σ' τ' : Wd} {B : Int} (hG : GG σ τ B) (c : ∀ k, k < 102 → σ'.1 k = σ.1 k) (c2 : σ'.2.2 = σ.2.2) (e : ∀ k, 102 ≤ k → τ'.1 k = τ.1 k) : GG σ' τ' B := by
  obtain ⟨m, V, E, pres, kp, d, p, L, W, dl, pl, et, b, t, s, rd, h, n, g, hG⟩ := hG
  obtain ⟨g1, g2, ⟨g3, g4⟩, ⟨g5, g6, g7⟩, ⟨g8, g9, g10⟩, ⟨⟨t1, t2, t3⟩, t4⟩, ⟨tp, p1, p2, p3, p4⟩⟩ := hG
  have m50 : m = 11 ∨ m = 24 := by omega
  refine ⟨m, V, E, pres, kp, d, p, L, W, dl, pl, et, b, t, s, rd, h, n, g, by rw [c2]; exact g1, by rw [c2]; exact g2, ⟨QQ_congr g3 (by omega) (fun k _ _ => c k (by omega)) (fun k _ _ => c k (by omega)) (fun i _ _ => by rw [e 102 (by decide)]) (e 103 (by decide)) (e 104 (by decide)) (e 105 (by decide)) (e 112 (by decide)), g4⟩, ⟨by rw [c 0 (by decide)]; exact g5, by rw [e 102 (by decide)]; exact g6, g7⟩,
    ⟨by rw [c 0 (by decide)]; exact g8, by rw [e 102 (by decide)]; exact g9, fun q => ⟨(g10 q).1, KK_congr (g10 q).2 (Int.le_refl _) (fun k _ _ => c k (by omega)) (fun k _ _ => c k (by omega)) (fun i _ _ => by rw [e 102 (by decide)]) (e 103 (by decide)) (e 104 (by decide)) (e 105 (by decide)) (e 113 (by decide))⟩⟩,
    ⟨⟨by rw [c 0 (by decide), e 102 (by decide)]; exact t1, fun q => ?_, fun q => ?_⟩, by rw [c 0 (by decide), e 102 (by decide)]; exact t4⟩, ⟨tp, p1, by rw [c 1 (by decide)]; exact p2, by rw [e 102 (by decide)]; exact p3, fun i hi => by rw [c 2 (by decide), e 115 (by decide)]; exact p4 i hi⟩⟩
  · rw [c 0 (by decide)] at q
    rw [e 102 (by decide), c 1 (by decide)]
    exact t2 q
  · rw [c 0 (by decide)] at q
    rw [e 102 (by decide)]
    exact t3 q
theorem GG_B {σ τ : Wd} {B B' : Int} (hG : GG σ τ B) (h : B ≤ B') : GG σ τ B' := by
  obtain ⟨m, V, E, pres, kp, d, p, L, W, dl, pl, et, b, t, s, rd, h, n, g, hG⟩ := hG
  exact ⟨m, V, E, pres, kp, d, p, L, W, dl, pl, et, b, t, s, rd, h, n, g, GA_B hG (by omega)⟩
/-- a call of the law: the class' method, then the reference's, over one state -/
theorem stM {fc fr : Wd → Option (Int32 × Wd)} (h : MT fc fr) {σ : Wd} {B : Int} (hG : GG σ σ B) (hB : B ≤ 200000) : ∃ (x : Int32) (σ1 σ3 : Wd), fc σ = some (x, σ1) ∧ fr σ1 = some (x, σ3) ∧ GG σ3 σ3 (B + 200) := by
  obtain ⟨x, s1, t1, a1, -, -, c1, -⟩ := h σ σ B hG hB
  obtain ⟨y, s2, t2, b1, b2, b3, -, r2⟩ := h σ s1 B (GG_mix hG (fun _ _ => rfl) rfl c1.1) hB
  rw [a1] at b1
  obtain ⟨q1, q2⟩ := Prod.mk.inj (Option.some.inj b1)
  subst q1 q2
  exact ⟨x, s1, t2, a1, b2, GG_mix b3 r2.1 r2.2 (fun _ _ => rfl)⟩
theorem stL {fc fr : Wd → Option (Int32 × Wd)} (h : ML fc fr) {σ : Wd} {B : Int} (hG : GG σ σ B) (hB : B ≤ 200000) : ∃ (x y : Int32) (σ1 σ3 : Wd), fc σ = some (x, σ1) ∧ fr σ1 = some (y, σ3) ∧ GG σ3 σ3 (B + 200) := by
  obtain ⟨x, x', s1, t1, a1, -, -, c1, -⟩ := h σ σ B hG hB
  obtain ⟨y, y', s2, t2, b1, b2, b3, -, r2⟩ := h σ s1 B (GG_mix hG (fun _ _ => rfl) rfl c1.1) hB
  rw [a1] at b1
  obtain ⟨q1, q2⟩ := Prod.mk.inj (Option.some.inj b1)
  subst q1 q2
  exact ⟨x, y', s1, t2, a1, b2, GG_mix b3 r2.1 r2.2 (fun _ _ => rfl)⟩
/-- dry of the law: r2 tells whether it threw, 120 what it answered -/
theorem stD {a : Int32} {σ : Wd} {B : Int} (hG : GG σ σ B) : ∃ (r y : Int32) (σ1 σ3 : Wd), f_L_dry a σ = some (r, σ1) ∧ f_X7_dry a σ1 = some (y, σ3) ∧ GG σ3 σ3 (B + 200) ∧ ((r = 1 ∧ σ3.1 102 0 = 1) ∨ (r = 0 ∧ σ3.1 102 0 = 0 ∧ σ3.2.1 120 0 = y.toInt64)) := by
  obtain ⟨x, -, -, a1, -⟩ := m_dry a σ σ B hG
  by_cases c : x = (-1 : Int32)
  · obtain ⟨x', y, t2, b1, b2, b3, r2, -, hc⟩ := m_dry a σ σ B hG
    rw [a1] at b1
    obtain ⟨q1, -⟩ := Prod.mk.inj (Option.some.inj b1)
    subst q1
    refine ⟨1, y, σ, t2, ?_, b2, GG_mix b3 r2.1 r2.2 (fun _ _ => rfl), Or.inl ⟨rfl, ?_⟩⟩
    · unfold f_L_dry
      rw [a1, bd_s, if_pos c]
    · rcases hc with ⟨-, q⟩ | ⟨q, -⟩
      · exact q
      · exact absurd c q
  · obtain ⟨x', y, t2, b1, b2, b3, r2, s2, hc⟩ := m_dry a (wl σ 120 0 x.toInt64) (wl σ 120 0 x.toInt64) B (GG_mix hG (fun _ _ => rfl) rfl (fun _ _ => rfl))
    obtain ⟨z, z', t3, e1, e2, e3, -, -, ec⟩ := m_dry a σ (wl σ 120 0 x.toInt64) B (GG_mix hG (fun _ _ => rfl) rfl (fun _ _ => rfl))
    rw [a1] at e1
    obtain ⟨q1, -⟩ := Prod.mk.inj (Option.some.inj e1)
    subst q1
    rw [b2] at e2
    obtain ⟨q2, q3⟩ := Prod.mk.inj (Option.some.inj e2)
    subst q2 q3
    refine ⟨0, y, wl σ 120 0 x.toInt64, t2, ?_, b2, GG_mix b3 r2.1 r2.2 (fun _ _ => rfl), Or.inr ⟨rfl, ?_, ?_⟩⟩
    · unfold f_L_dry
      rw [a1, bd_s, if_neg c]
    · rcases ec with ⟨q, -⟩ | ⟨-, q, -⟩
      · exact absurd q c
      · exact q
    · rcases ec with ⟨q, -⟩ | ⟨-, -, q⟩
      · exact absurd q c
      · rw [s2, q, wl_eq]
theorem GG_0 : GG σ0 σ0 0 := by
  refine ⟨24, 0, 0, false, false, ((fun _ => 0, fun _ => 0, fun _ => 0, fun _ => 0), fun _ => 0, fun _ => 0, fun _ => 0), 0, 0, 0, fun _ => 0, fun _ => 0, fun _ => 0, false, 0, 0, 0, fun _ => 0, fun _ => 0, fun _ => 0, Or.inr ⟨rfl, rfl⟩, rfl, ⟨⟨⟨⟨by decide, fun v hv => absurd hv (by omega)⟩, ⟨rfl, fun v hv => absurd hv (by omega)⟩, ⟨rfl, fun v hv => absurd hv (by omega)⟩, ⟨rfl, rfl, by decide, by decide⟩, ⟨rfl, rfl, by decide, by decide, fun q => absurd q (by decide)⟩, ⟨rfl, rfl, by decide, by decide⟩, fun v hv => absurd hv (by omega), fun v hv => absurd hv (by omega)⟩, ⟨by decide, rfl, rfl, fun v hv => absurd hv (by omega), fun v hv => absurd hv (by omega)⟩, ⟨⟨rfl, rfl⟩, ⟨rfl, rfl, by decide, by decide⟩, ⟨rfl, rfl, by decide, by decide⟩, rfl, rfl, rfl, rfl⟩, ⟨0, rfl, by decide, fun v hv => absurd hv (by omega), fun v _ hv => absurd hv (by omega)⟩, fun v hv => absurd hv (by omega), ⟨0, fun i => i, by decide, rfl, rfl, fun v hv => absurd hv (by omega), fun v _ hv => absurd hv (by omega)⟩, ⟨fun v hv => absurd hv (by omega), by decide⟩, ⟨rfl, by decide, by decide⟩, fun _ => rfl, fun _ => ⟨fun v hv => absurd hv (by omega), fun q => by cases q⟩⟩, by decide⟩, ⟨rfl, rfl, fun _ => ⟨rfl, rfl⟩⟩, ⟨rfl, rfl, fun q => by cases q⟩, ⟨⟨rfl, fun q => absurd q (by decide), fun _ => rfl⟩, rfl⟩, ⟨0, by decide, rfl, rfl, fun v hv => absurd hv (by omega)⟩⟩
