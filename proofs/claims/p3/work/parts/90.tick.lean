/-! PURE: a tick, in step -/
theorem pu_upd {n : Nat → Int} {v : Nat} {x : Int} : ∀ (r u : Nat), u ≤ v → v < u + r → pu (fun w => if w = v then x else n w) r u = pu n r u - n v + x
  | 0, u, h1, h2 => absurd h2 (by omega)
  | r + 1, u, h1, h2 => by
    unfold pu
    by_cases c : u = v
    · subst c
      rw [pu_congr (g := n) r (u + 1) (fun w g1 g2 => if_neg (by omega))]
      show (if u = u then x else n u) + _ = _
      rw [if_pos rfl]
      omega
    · rw [pu_upd r (u + 1) (by omega) (by omega)]
      show (if u = v then x else n u) + _ = _
      rw [if_neg c]
      omega
theorem c75_step {m r V v k : Nat} {σ σ' : Wd} (h3 : σ.1 m 3 = I (V : Int)) (hV : V ≤ 5) (hv : v < V) (e : f_X4_visit r m (I (v : Int)) σ = some (0, σ')) : f_X4_tick_75 r m (k + 1) (I (v : Int)) σ = f_X4_tick_75 r m k (I ((v : Int) + 1)) σ' := by
  rw [f_X4_tick_75]
  simp (disch := omega) only [gd_t, bd_s, nm_W, nm_I, I_add, I_sub, I_mul, I_neg, I_le_t, I_le_f, I_lt_t, I_lt_f, I_eq_t, I_eq_f, I_inb', I_ix', Int.toNat_natCast, decide_true, decide_false, Bool.not_false, Bool.not_true, if_true, if_false, wi_eq, wi_eq', wi_ne, wi_row, wi_2, N0, N1, N2, N3, N4, N5, N6, N7, N8, N9, N10, N11, N12, N13, N14, N15, N16, N17, N18, N19, N20, N21, N22, N23, N24, N25, N26, N27, N28, N29, N30, N31, N32, N33, N34, N35, N36, N37, N38, N39, N40, N41, N42, N43, N45, N48, N57, N59, N88, N89, N97, N99, N120, N121, N122, N179, N200, N255, N300, N400, N880, N900, N999, N1019, N50000000, N100000000, N1000000000, N2147483647, N2147483648, h3, e]
theorem c75_end {m r V k : Nat} {σ : Wd} {z : Int} (h3 : σ.1 m 3 = I (V : Int)) (hV : V ≤ 5) (hz : z = (V : Int)) : f_X4_tick_75 r m (k + 1) (I z) σ = bd (f_X4_startRound r m σ) (fun _ σ2 => some (I 0, σ2)) := by
  rw [f_X4_tick_75]
  simp (disch := omega) only [gd_t, bd_s, nm_W, nm_I, I_add, I_sub, I_mul, I_neg, I_le_t, I_le_f, I_lt_t, I_lt_f, I_eq_t, I_eq_f, I_inb', I_ix', Int.toNat_natCast, decide_true, decide_false, Bool.not_false, Bool.not_true, if_true, if_false, wi_eq, wi_eq', wi_ne, wi_row, wi_2, N0, N1, N2, N3, N4, N5, N6, N7, N8, N9, N10, N11, N12, N13, N14, N15, N16, N17, N18, N19, N20, N21, N22, N23, N24, N25, N26, N27, N28, N29, N30, N31, N32, N33, N34, N35, N36, N37, N38, N39, N40, N41, N42, N43, N45, N48, N57, N59, N88, N89, N97, N99, N120, N121, N122, N179, N200, N255, N300, N400, N880, N900, N999, N1019, N50000000, N100000000, N1000000000, N2147483647, N2147483648, h3]
theorem r90_step {V v k : Nat} {τ τ' : Wd} {acc nb : Int32} (h3 : τ.1 102 14 = I (V : Int)) (hV : V ≤ 5) (hv : v < V) (e : f_X7_goesAt (I (v : Int)) τ = some (nb, τ')) : f_X7_tick_90 (k + 1) acc (I (v : Int)) τ = f_X7_tick_90 k (acc + nb) (I ((v : Int) + 1)) τ' := by
  rw [f_X7_tick_90]
  simp (disch := omega) only [gd_t, bd_s, nm_W, nm_I, I_add, I_sub, I_mul, I_neg, I_le_t, I_le_f, I_lt_t, I_lt_f, I_eq_t, I_eq_f, I_inb', I_ix', Int.toNat_natCast, decide_true, decide_false, Bool.not_false, Bool.not_true, if_true, if_false, wi_eq, wi_eq', wi_ne, wi_row, wi_2, N0, N1, N2, N3, N4, N5, N6, N7, N8, N9, N10, N11, N12, N13, N14, N15, N16, N17, N18, N19, N20, N21, N22, N23, N24, N25, N26, N27, N28, N29, N30, N31, N32, N33, N34, N35, N36, N37, N38, N39, N40, N41, N42, N43, N45, N48, N57, N59, N88, N89, N97, N99, N120, N121, N122, N179, N200, N255, N300, N400, N880, N900, N999, N1019, N50000000, N100000000, N1000000000, N2147483647, N2147483648, h3, e]
theorem r90_end {V k : Nat} {τ : Wd} {acc : Int32} {z : Int} (h3 : τ.1 102 14 = I (V : Int)) (hV : V ≤ 5) (hz : z = (V : Int)) : f_X7_tick_90 (k + 1) acc (I z) τ = bd (f_X7_beginsRound τ) (fun _ σ2 => some (acc, σ2)) := by
  rw [f_X7_tick_90]
  simp (disch := omega) only [gd_t, bd_s, nm_W, nm_I, I_add, I_sub, I_mul, I_neg, I_le_t, I_le_f, I_lt_t, I_lt_f, I_eq_t, I_eq_f, I_inb', I_ix', Int.toNat_natCast, decide_true, decide_false, Bool.not_false, Bool.not_true, if_true, if_false, wi_eq, wi_eq', wi_ne, wi_row, wi_2, N0, N1, N2, N3, N4, N5, N6, N7, N8, N9, N10, N11, N12, N13, N14, N15, N16, N17, N18, N19, N20, N21, N22, N23, N24, N25, N26, N27, N28, N29, N30, N31, N32, N33, N34, N35, N36, N37, N38, N39, N40, N41, N42, N43, N45, N48, N57, N59, N88, N89, N97, N99, N120, N121, N122, N179, N200, N255, N300, N400, N880, N900, N999, N1019, N50000000, N100000000, N1000000000, N2147483647, N2147483648, h3]
set_option maxHeartbeats 1000000 in
theorem visits_ok {m r V : Nat} {p L W : Int} {dl pl : Nat → Int} {b : Bool} {t : Int} (hm : 10 < m) (hmr : m + 12 < r) :
    ∀ (rr v n1 n2 : Nat) (acc : Int32) (z s : Int) (h n g : Nat → Int) (d : MD) (σ τ : Wd), z = (v : Int) → v + rr = V → rr < n1 → rr < n2 → QM m σ τ V d p L W dl pl → QR r σ τ b t s → LR (r + 9) σ τ V d → (∀ w, w < v → QP r σ τ t t w (h w) (n w) (g w)) → (∀ w, v ≤ w → w < V → QP r σ τ (t - 1) t w (h w) (n w) (g w)) → (∀ w, w < V → 0 ≤ n w) → pu n V 0 ≤ s →
      ∃ (σ' τ' : Wd) (d' : MD) (s' : Int) (h' n' g' : Nat → Int) (nb : Int32), f_X4_tick_75 r m n1 (I z) σ = bd (f_X4_startRound r m σ') (fun _ σ2 => some (I 0, σ2)) ∧ f_X7_tick_90 n2 acc (I z) τ = bd (f_X7_beginsRound τ') (fun _ σ2 => some (acc + nb, σ2))
        ∧ QM m σ' τ' V d' p L W dl pl ∧ QR r σ' τ' b t s' ∧ LR (r + 9) σ' τ' V d' ∧ QPs r σ' τ' V t h' n' g' ∧ (∀ w, w < V → 0 ≤ n' w) ∧ pu n' V 0 ≤ s' ∧ (d'.1 = d.1 ∧ d'.lv = d.lv ∧ d'.pr = d.pr) ∧ ((∀ w, w < V → h w = 0) → s' = s ∧ ∀ w, w < V → h' w = 0) ∧ σ'.1 r 3 = σ.1 r 3 + nb
        ∧ ((∀ k, k ≠ m + 9 → k < r ∨ r + 12 < k → σ'.1 k = σ.1 k) ∧ σ'.1 r 6 = σ.1 r 6 ∧ σ'.1 r 7 = σ.1 r 7 ∧ σ'.2 = σ.2) ∧ ((∀ k, k ≠ 112 → τ'.1 k = τ.1 k) ∧ τ'.2 = τ.2)
  | 0, v, n1 + 1, n2 + 1, acc, z, s, h, n, g, d, σ, τ, hz, hv, _, _, hM, hR, hL, hP, hP2, hn, hs =>
    ⟨σ, τ, d, s, h, n, g, I 0, c75_end hM.2.1.1 hM.1.1 (by omega), by rw [addI0]; exact r90_end hM.2.2.1.1 hM.1.1 (by omega), hM, hR, hL, fun w hw => hP w (by omega), hn, hs, ⟨rfl, rfl, rfl⟩, fun q => ⟨rfl, q⟩, (addI0 _).symm, ⟨fun _ _ _ => rfl, rfl, rfl, rfl⟩, ⟨fun _ _ => rfl, rfl⟩⟩
  | rr + 1, v, n1 + 1, n2 + 1, acc, z, s, h, n, g, d, σ, τ, hz, hv, hn1, hn2, hM, hR, hL, hP, hP2, hn, hs => by
    subst hz
    have hvV : v < V := by omega
    have nvs := (pu_ge (w := v) V 0 (fun w g1 g2 => hn w (by omega)) (by omega) (by omega)).1
    obtain ⟨σ1, τ1, d1, s1, hv', nv', gv', nb, a1, a2, a3, a4, a5, a6, a7, a8, a9, a10, a11⟩ := visit_ok hm hmr hvV hM hR hL (hP2 v (Nat.le_refl _) hvV) (by omega)
    have oth : ∀ w, w ≠ v → w < V → ∀ tb h n g, QP r σ τ tb t w h n g → QP r σ1 τ1 tb t w h n g := fun w hw wV tb h n g q => QP_congr q (fun k g1 g2 => a11.1.2.1 k g1 g2 w hw) (fun i g1 g2 => a11.2.2.1 i (by omega) (by have := hM.1.1; omega) (by omega)) (a11.2.1 103 (by decide))
    obtain ⟨σ', τ', d', s', h', n', g', nb', q1, q2, q3, q4, q5, q6, q7, q8, q9, q10, q11, ⟨f1, f2, f3, f4⟩, ⟨f5, f6⟩⟩ := visits_ok hm hmr rr (v + 1) n1 n2 (acc + nb) ((v : Int) + 1) s1 (fun w => if w = v then hv' else h w) (fun w => if w = v then nv' else n w) (fun w => if w = v then gv' else g w) d1 σ1 τ1 (by omega) (by omega) (by omega) (by omega) a3 a4 a6
      (fun w hw => by
        by_cases e : w = v
        · subst e
          simp only [if_true]
          exact a5
        · simp only [if_neg e]
          exact oth w e (by omega) _ _ _ _ (hP w (by omega)))
      (fun w g1 g2 => by
        simp only [if_neg (show ¬ w = v by omega)]
        exact oth w (by omega) g2 _ _ _ _ (hP2 w (by omega) g2))
      (fun w hw => by
        by_cases e : w = v
        · simp only [if_pos e]; exact a8.1
        · simp only [if_neg e]; exact hn w hw)
      (by rw [pu_upd V 0 (by omega) (by omega)]; have := a8.2; omega)
    refine ⟨σ', τ', d', s', h', n', g', nb + nb', ?_, ?_, q3, q4, q5, q6, q7, q8, ⟨by rw [q9.1, a7.1], by rw [q9.2.1, a7.2.1], by rw [q9.2.2, a7.2.2]⟩, fun hz => ?_, by rw [q11, a10, Int32.add_assoc], ⟨fun k g1 g2 => by rw [f1 k g1 g2, a11.1.1 k g1 g2], ?_, by rw [f3, a11.1.2.2.1 7 (by decide) (by decide)], by rw [f4, a11.1.2.2.2]⟩, ⟨fun k hk => by rw [f5 k hk, a11.2.1 k hk], by rw [f6, a11.2.2.2]⟩⟩
    · rw [c75_step hM.2.1.1 hM.1.1 hvV a1]; exact q1
    · rw [r90_step hM.2.2.1.1 hM.1.1 hvV a2, q2, Int32.add_assoc]
    · obtain ⟨y1, y2⟩ := a9 (hz v hvV)
      obtain ⟨y3, y4⟩ := q10 (fun w hw => by
        by_cases e : w = v
        · simp only [if_pos e]; exact y1
        · simp only [if_neg e]; exact hz w hw)
      exact ⟨by omega, y4⟩
    · rw [f2, a11.1.2.2.1 6 (by decide) (by decide)]
/-- all that class (market m, run r) and reference have in common -/
def QQ (m r : Nat) (σ τ : Wd) (V E : Nat) (d : MD) (p L W : Int) (dl pl et : Nat → Int) (b : Bool) (t s rd : Int) (h n g : Nat → Int) : Prop :=
  QM m σ τ V d p L W dl pl ∧ QE m σ τ V E d.lv et ∧ QR r σ τ b t s ∧ QN r σ E et t ∧ QPs r σ τ V t h n g ∧ LR (r + 9) σ τ V d ∧ ((∀ w, w < V → 0 ≤ n w) ∧ pu n V 0 ≤ s) ∧ (σ.1 r 6 = I rd ∧ 0 ≤ rd ∧ rd ≤ t + 1) ∧ (b = false → rd = 0) ∧ (rd = 0 → (∀ w, w < V → h w = 0) ∧ (b = true → s = W))
/-- what a tick leaves alone -/
def TF (m r : Nat) (σ τ σ' τ' : Wd) : Prop := ((∀ k, k < 4 ∨ 9 < k → k ≠ m + 9 → k < r ∨ r + 12 < k → σ'.1 k = σ.1 k) ∧ σ'.2 = σ.2)
  ∧ ((∀ k, k ≠ 102 → k ≠ 112 → k ≠ 116 → k ≠ 117 → τ'.1 k = τ.1 k) ∧ (∀ i, i ≠ 37 → i ≠ 38 → τ'.1 102 i = τ.1 102 i) ∧ τ'.2 = τ.2)
set_option maxHeartbeats 2000000 in
theorem tick_ok {m r V E : Nat} {d : MD} {σ τ : Wd} {p L W : Int} {dl pl et : Nat → Int} {t s rd : Int} {h n g : Nat → Int} (hm : 10 < m) (hmr : m + 12 < r) (hQ : QQ m r σ τ V E d p L W dl pl et true t s rd h n g) (ht : t < 1000000) :
    ∃ (σ' τ' : Wd) (d' : MD) (s' rd' : Int) (h' n' g' : Nat → Int) (nb : Int32), f_X4_tick r m σ = some (0, σ') ∧ f_X7_tick τ = some (nb, τ') ∧ QQ m r σ' τ' V E d' p L W dl pl et true (t + 1) s' rd' h' n' g' ∧ (d'.1 = d.1 ∧ d'.lv = d.lv ∧ d'.pr = d.pr) ∧ σ'.1 r 3 = σ.1 r 3 + nb ∧ TF m r σ τ σ' τ' := by
  obtain ⟨hM, hE, hR, ⟨np, np1, np2, np3, np4⟩, hP, hL, ⟨hn, hs⟩, ⟨r6, rd0, rd1⟩, hb, hz⟩ := hQ
  have t0 := hR.2.1.2.2.1
  obtain ⟨σ0, hσ0⟩ : ∃ x, x = wi σ r 1 (I (t + 1)) := ⟨_, rfl⟩
  obtain ⟨τ0, hτ0⟩ : ∃ x, x = wi τ 112 37 (I (t + 1)) := ⟨_, rfl⟩
  have c0 : ∀ k, k ≠ r → σ0.1 k = σ.1 k := fun k hk => by rw [hσ0, wi_row hk]
  have ci : ∀ i, i ≠ 1 → σ0.1 r i = σ.1 r i := fun i hi => by rw [hσ0, wi_ne hi]
  have e0 : ∀ k, k ≠ 112 → τ0.1 k = τ.1 k := fun k hk => by rw [hτ0, wi_row hk]
  have ei : ∀ i, i ≠ 37 → τ0.1 112 i = τ.1 112 i := fun i hi => by rw [hτ0, wi_ne hi]
  have M0 : QM m σ0 τ0 V d p L W dl pl := QM_rows hM (fun k g1 g2 => c0 k (by omega)) (fun i _ _ => by rw [e0 102 (by decide)]) (e0 103 (by decide)) (e0 104 (by decide)) (fun i hi => ei i (by omega))
  have E0 : QE m σ0 τ0 V E d.lv et := QE_congr hE (by rw [c0 m (by omega)]) (c0 _ (by omega)) (c0 _ (by omega)) (c0 _ (by omega)) (by rw [e0 102 (by decide)]) (e0 105 (by decide))
  have L0 : LR (r + 9) σ0 τ0 V d := LR_congr hL rfl rfl (fun k g1 g2 => c0 k (by omega)) (fun i hi => ei i (by omega))
  have s1 : σ0.1 r 1 = I (t + 1) := by rw [hσ0, wi_eq]
  have t37 : τ0.1 112 37 = I (t + 1) := by rw [hτ0, wi_eq]
  have pre := ev_pre (tt := t + 1) E0 t37 (by omega) (by omega) np 0 (6000 - np) 0 rfl (by omega) (fun j g1 g2 => by have := np3 j (by omega); omega)
  rw [Nat.zero_add] at pre
  have hE10 := hE.1
  obtain ⟨σ1, τ1, d1, np', a1, a2, a3, a4, a5, a6, a7, a8, a9, a10, ⟨f1, f2, f3⟩, ⟨f4, f5, f6⟩⟩ := ev_ok (E := E) (et := et) (tt := t + 1) hm hmr (by omega) (by omega) (E - np) np FU (6000 - np) d σ0 τ0 (by omega) (by show _ < 6000; omega) (by omega) M0 E0 L0 s1 t37 (by rw [ci 7 (by decide)]; exact np1) (fun j g1 g2 => by have := np4 j g1 g2; omega)
  have R1 : QR r σ1 τ1 true (t + 1) s := by
    obtain ⟨⟨y0, y0'⟩, y1, ⟨y2, y2', y3, y4⟩, y5, y6, y7, y8⟩ := hR
    refine ⟨⟨by rw [f2 0 (by decide), ci 0 (by decide)]; exact y0, by rw [f5 36 (by decide), ei 36 (by decide)]; exact y0'⟩, ⟨by rw [f2 1 (by decide)]; exact s1, by rw [f5 37 (by decide)]; exact t37, by omega, by omega⟩, ⟨by rw [f2 2 (by decide), ci 2 (by decide)]; exact y2, by rw [f5 38 (by decide), ei 38 (by decide)]; exact y2', y3, y4⟩, ?_, ?_, ?_, ?_⟩
    · rw [f2 3 (by decide), ci 3 (by decide), f5 39 (by decide), ei 39 (by decide)]; exact y5
    · rw [f2 4 (by decide), ci 4 (by decide), f5 40 (by decide), ei 40 (by decide)]; exact y6
    · rw [f2 5 (by decide), ci 5 (by decide), f5 41 (by decide), ei 41 (by decide)]; exact y7
    · rw [f2 6 (by decide), ci 6 (by decide), f5 42 (by decide), ei 42 (by decide)]; exact y8
  have P1 : ∀ w, w < V → QP r σ1 τ1 (t + 1 - 1) (t + 1) w (h w) (n w) (g w) := by
    intro w hw
    have q := QP_congr (hP w hw) (σ' := σ1) (τ' := τ1) (fun k g1 g2 => by rw [f1 k (by omega) (by omega), c0 k (by omega)]) (fun i g1 g2 => by rw [f5 i (by omega), ei i (by omega)]) (by rw [f4 103 (by decide), e0 103 (by decide)])
    obtain ⟨y1, y2, y3, y4, y5, ⟨u, k, z1, z2, z3, z4, z5, z6, z7, z8, z9, z10, z11⟩, y7⟩ := q
    rw [show t + 1 - 1 = t from by omega]
    exact ⟨y1, y2, y3, y4, y5, ⟨u, k, z1, z2, z3, by omega, z5, z6, z7, by omega, z9, fun q => ⟨(z10 q).1, by have := (z10 q).2; omega⟩, z11⟩, y7⟩
  have h5 := hM.1.1
  obtain ⟨σ2, τ2, d2, s2, h2, n2, g2, nb, b1, b2, b3, b4, b5, b6, b7, b8, b9, b10, b11, ⟨k1, k2, k3, k4⟩, ⟨k5, k6⟩⟩ := visits_ok hm hmr V 0 FU FU (I 0) 0 s h n g d1 σ1 τ1 rfl (by omega) (by show _ < 6000; omega) (by show _ < 6000; omega) a3 R1 a4 (fun w hw => absurd hw (by omega)) (fun w _ hw => P1 w hw) hn hs
  have r62 : σ2.1 r 6 = I rd := by rw [k2, f2 6 (by decide), ci 6 (by decide)]; exact r6
  have hW : rd = 0 → s2 = W := fun q => by
    obtain ⟨x1, x2⟩ := hz q
    obtain ⟨x3, x4⟩ := b10 x1
    have := x2 rfl
    omega
  obtain ⟨σ3, τ3, h3, n3, g3, c, rd', q1, q2, q3, q4, q5, q6, q7, q8, q9, ⟨⟨v1, v2, v3⟩, ⟨v4, v5, v6⟩⟩⟩ := round_ok hm hmr b3 b4 b5 b6 b8 r62 rd0 (by omega) hW
  have cc : ∀ k, k < 4 ∨ 9 < k → k ≠ m + 9 → k < r ∨ r + 12 < k → σ3.1 k = σ.1 k := fun k g1 g2 g3 => by rw [v1 k g1 (by omega), k1 k g2 g3, f1 k g2 (by omega), c0 k (by omega)]
  have d102 : ∀ i, i ≠ 37 → i ≠ 38 → τ3.1 102 i = τ.1 102 i := fun i g1 g2 => by rw [v5 i g1 g2, k5 102 (by decide), f4 102 (by decide), e0 102 (by decide)]
  have dk : ∀ k, k ≠ 102 → k ≠ 112 → k ≠ 116 → k ≠ 117 → τ3.1 k = τ.1 k := fun k g1 g2 g3 g4 => by rw [v4 k g1 g2 g3 g4, k5 k g2, f4 k g2, e0 k g2]
  have sl : d2.1 = d.1 ∧ d2.lv = d.lv ∧ d2.pr = d.pr := ⟨by rw [b9.1, a5.1], by rw [b9.2.1, a5.2.1], by rw [b9.2.2, a5.2.2]⟩
  refine ⟨σ3, τ3, d2, s2, rd', h3, n3, g3, nb, ?_, ?_, ⟨q3, ?_, q4, ⟨np', ?_, a8, ?_, a10⟩, q6, q5, ⟨?_, q7⟩, ⟨q8, by omega, by omega⟩, fun q => (by cases q), fun q => ?_⟩, sl, ?_, ⟨⟨cc, by rw [v3, k4, f3, hσ0, wi_2]⟩, ⟨dk, d102, by rw [v6, k6, f6, hτ0, wi_2]⟩⟩⟩
  · unfold f_X4_tick
    have e : (σ.1 r 1) + (1 : Int32) = I (t + 1) := by rw [hR.2.1.1, show (1 : Int32) = I 1 from rfl, I_add]
    rw [e, nm_W, ← hσ0, a1]
    unfold f_X4_tick_73
    rw [show (0 : Int32) = I 0 from rfl, b1, q1]
    rfl
  · unfold f_X7_tick
    have w37 : Int.toNat 37 = 37 := rfl
    have st : gd (inb (37 : Int32) 179) (gd (inb (37 : Int32) 179) (nmW (wi τ 112 (ix (37 : Int32)) ((τ.1 112 (ix (37 : Int32))) + (1 : Int32))) fun σ1 => (f_X7_tick_13 FU (0 : Int32) σ1))) = f_X7_tick_13 FU (I 0) τ0 := by
      have e37 := hR.2.1.2.1
      rw [hτ0]
      simp (disch := omega) only [gd_t, bd_s, nm_W, nm_I, I_add, I_sub, I_mul, I_neg, I_le_t, I_le_f, I_lt_t, I_lt_f, I_eq_t, I_eq_f, I_inb', I_ix', Int.toNat_natCast, decide_true, decide_false, Bool.not_false, Bool.not_true, if_true, if_false, wi_eq, wi_eq', wi_ne, wi_row, wi_2, N0, N1, N2, N3, N4, N5, N6, N7, N8, N9, N10, N11, N12, N13, N14, N15, N16, N17, N18, N19, N20, N21, N22, N23, N24, N25, N26, N27, N28, N29, N30, N31, N32, N33, N34, N35, N36, N37, N38, N39, N40, N41, N42, N43, N45, N48, N57, N59, N88, N89, N97, N99, N120, N121, N122, N179, N200, N255, N300, N400, N880, N900, N999, N1019, N50000000, N100000000, N1000000000, N2147483647, N2147483648, w37, e37]
    rw [st]
    have fu : f_X7_tick_13 FU (I 0) τ0 = f_X7_tick_13 (6000 - np + np) (I 0) τ0 := by rw [show 6000 - np + np = FU from by show _ = 6000; omega]
    rw [fu, pre, a2, b2, q2, bd_s, show I 0 + nb = nb from Int32.zero_add nb]
  · exact QE_congr (by rw [sl.2.1]; exact hE) (by rw [cc m (by omega) (by omega) (by omega)]) (cc _ (by omega) (by omega) (by omega)) (cc _ (by omega) (by omega) (by omega)) (cc _ (by omega) (by omega) (by omega)) (d102 15 (by decide) (by decide)) (dk 105 (by decide) (by decide) (by decide) (by decide))
  · rw [v2 7 (by decide), k3]; exact a6
  · intro j hj
    by_cases g : np ≤ j
    · exact a9 j g hj
    · have := np3 j (by omega)
      omega
  · intro w hw
    have := (q6 w hw).2.2.2.2.2.2.2.2
    omega
  · rcases q9 with ⟨x1, x2⟩ | x1
    · rw [x1] at q
      obtain ⟨y1, y2⟩ := hz q
      obtain ⟨y3, y4⟩ := b10 y1
      exact ⟨by rw [x2]; exact y4, fun _ => hW q⟩
    · omega
  · rw [v2 3 (by decide), b11, f2 3 (by decide), ci 3 (by decide)]
