/-! PURE: the reference's best split, whole; helpers for the class' -/
theorem rBest {V q : Nat} {p but : Int} {d : MD} {σ : Wd} (hd : MDok d V) (hp : R p) (hb : R but) (hq : q ≤ 120) (h : RV σ V d) (hl : σ.1 102 12 = I p) :
    ∃ σ', f_X7_laysBest (I (q : Int)) (I but) σ = some (0, σ') ∧ σ'.1 102 37 = I (bu (lcs d p but V V) q : Int)
      ∧ σ'.1 102 38 = I (enc 100000000 (lcs d p but V V (bu (lcs d p but V V) q)))
      ∧ (∀ v, v < V → σ'.1 117 v = I (shs d p but V V (bu (lcs d p but V V) q) v : Int))
      ∧ (∀ k, k ≠ 102 → k ≠ 116 → k ≠ 117 → σ'.1 k = σ.1 k) ∧ (∀ i, i ≠ 37 → i ≠ 38 → σ'.1 102 i = σ.1 102 i) ∧ σ'.2 = σ.2 := by
  have h5 := hd.1
  obtain ⟨s1, a1, a2, a3, a4⟩ := r_init (p := p) (but := but) (d := d) (x1 := I (q : Int)) (x2 := I but) hd.1 121 0 FU σ (by decide) rfl h.1 (fun w hw => absurd hw (by omega))
  obtain ⟨s2, b1, b2, b3, b4⟩ := r_rows (x1 := I (q : Int)) hd hp hb V 0 FU s1 (by show V < 6000; omega) (by omega)
    (RV_congr h (by rw [a2 102 (by decide)]) (a2 103 (by decide)) (a2 104 (by decide)) (a2 112 (by decide))) (by rw [a2 102 (by decide)]; exact hl)
    (fun i hi w hw => by
      have : i = 0 := by omega
      subst this
      exact a4 w hw)
  obtain ⟨s3, c1, c2, c3, c4, c5, c6⟩ := r_best (x2 := I but) (p := p) (but := but) hd q FU (wi s2 102 37 (I (q : Int))) (by show q < 6000; omega) hq wi_eq
    (fun w hw => by
      have := b4 V (Nat.le_refl _) w hw
      rw [show 121 * (V - V) + w = w from by omega] at this
      rw [wi_row (by decide)]
      exact this)
  have r2 : ∀ k, k ≠ 116 → s2.1 k = σ.1 k := fun k hk => by rw [b2 k hk, a2 k hk]
  have f102 : ∀ i, i ≠ 37 → i ≠ 38 → s3.1 102 i = σ.1 102 i := fun i h1 h2 => by rw [c5 i h1 h2, wi_ne h1, r2 102 (by decide)]
  have fr : ∀ k, k ≠ 102 → k ≠ 116 → s3.1 k = σ.1 k := fun k h1 h2 => by rw [c4 k h1, wi_row h1, r2 k h2]
  obtain ⟨s4, d1, d2, d3, d4, d5⟩ := r_shares hd hp hb V FU (bu (lcs d p but V V) q) s3 (by show V < 6000; omega) (Nat.le_refl _) (Nat.le_trans (bu_le q) hq) (bu_some (by rw [lcs_0]; exact fun h => by cases h) q)
    (RV_congr h (f102 14 (by decide) (by decide)) (fr 103 (by decide) (by decide)) (fr 104 (by decide) (by decide)) (fr 112 (by decide) (by decide))) (by rw [f102 12 (by decide) (by decide)]; exact hl)
    (fun i hi w hw => by rw [c4 116 (by decide), wi_row (by decide)]; exact b4 i hi w hw)
  refine ⟨s4, ?_, by rw [d2 102 (by decide)]; exact c2, by rw [d2 102 (by decide)]; exact c3, fun v hv => d4 v (by omega) hv, fun k h1 h2 h3 => by rw [d2 k h3, fr k h1 h2], fun i h1 h2 => by rw [d2 102 (by decide), f102 i h1 h2], by rw [d3, c6, wi_2, b3, a3]⟩
  show f_X7_laysBest_2 FU (I (q : Int)) (I but) (I ((0 : Nat) : Int)) σ = _
  rw [a1, show ((V : Int) - 1) = (V : Int) - ((0 : Nat) : Int) - 1 from by omega, b1, c1]
  unfold f_X7_laysShares
  rw [c2, show (0 : Int32) = I ((V - V : Nat) : Int) from by rw [Nat.sub_self]; rfl, d1]
  rfl
theorem CV_congr {m : Nat} {σ τ : Wd} {V : Nat} {d : MD} (h : CV m σ V d) (e : ∀ k, m ≤ k → τ.1 k = σ.1 k) : CV m τ V d := by
  unfold CV at h ⊢
  rw [e m (by omega), e (m + 1) (by omega), e (m + 2) (by omega), e (m + 3) (by omega), e (m + 4) (by omega), e (m + 6) (by omega), e (m + 8) (by omega), e (m + 9) (by omega)]
  exact h
theorem kx_mono {d : MD} {p but : Int} {v u q : Nat} (h : u ≤ q) : kx d p but v u ≤ kx d p but v q := by
  unfold kx
  split
  · exact Nat.le_refl _
  · exact Nat.div_le_div_right (by omega)
theorem kx_min {d : MD} {V v u q : Nat} {p but : Int} (hd : MDok d V) (hv : v < V) (h : u ≤ q) : min u (kx d p but v q * (d.lo v).toNat) / (d.lo v).toNat = kx d p but v u := by
  obtain ⟨-, lb, -⟩ := hd.2 v hv
  obtain ⟨l, hl⟩ : ∃ l, l = (d.lo v).toNat := ⟨_, rfl⟩
  have l1 : 1 ≤ l := by omega
  unfold kx
  rw [← hl]
  by_cases c : (v : Int) = but
  · rw [if_pos c, if_pos c, Nat.zero_mul, show min u 0 = 0 from by omega, Nat.zero_div]
  · rw [if_neg c, if_neg c]
    obtain ⟨D, hD⟩ : ∃ D, D = (dep d p v).toNat := ⟨_, rfl⟩
    rw [← hD]
    obtain ⟨k1, k2⟩ := div_box (M := min q D) l1
    by_cases c2 : u ≤ min q D / l * l
    · rw [show min u (min q D / l * l) = u from by omega, show min u D = u from by omega]
    · rw [show min u (min q D / l * l) = min q D / l * l from by omega, Nat.mul_div_cancel _ (by omega)]
      symm
      exact Nat.div_eq_of_lt_le (by omega) (by rw [Nat.succ_mul]; omega)
/-- room of a venue, for q units -/
def rm (d : MD) (p but : Int) (q v : Nat) : Nat := kx d p but v q * (d.lo v).toNat
theorem rm_le {d : MD} {V v q : Nat} {p but : Int} (hd : MDok d V) (hv : v < V) : rm d p but q v ≤ q := kx_le hd hv
/-- the rooms of r venues from v on -/
def srm (d : MD) (p but : Int) (q : Nat) : Nat → Nat → Nat
  | 0, _ => 0
  | r + 1, v => rm d p but q v + srm d p but q r (v + 1)
theorem lcs_srm {d : MD} {V q : Nat} {p but : Int} (hd : MDok d V) : ∀ (j u : Nat), j ≤ V → u ≤ q → lcs d p but V j u ≠ none → u ≤ srm d p but q j (V - j)
  | 0, u, _, _, h => by
    unfold lcs at h
    by_cases c : u = 0
    · omega
    · rw [if_neg c] at h
      exact absurd rfl h
  | j + 1, u, hj, hu, h => by
    obtain ⟨y, hy⟩ := Option.ne_none_iff_exists'.mp h
    obtain ⟨i, h1, h2⟩ := mnf_at (show mnf _ _ = some y from hy)
    have hv : V - (j + 1) < V := by omega
    have s : lcs d p but V j (u - i * (d.lo (V - (j + 1))).toNat) ≠ none := by
      intro c
      have h2 : oadd _ (lcs d p but V j (u - i * (d.lo (V - (j + 1))).toNat)) = some y := h2
      rw [c] at h2
      cases h2
    have ih := lcs_srm (q := q) hd j _ (by omega) (by omega) s
    have k := kx_le (p := p) (but := but) (u := u) hd hv
    have k2 : i * (d.lo (V - (j + 1))).toNat ≤ kx d p but (V - (j + 1)) q * (d.lo (V - (j + 1))).toNat := Nat.mul_le_mul_right _ (Nat.le_trans h1 (kx_mono hu))
    unfold srm rm
    rw [show V - (j + 1) + 1 = V - j from by omega]
    omega
theorem bu_cut {f : Nat → Option Int} {M : Nat} : ∀ (q : Nat), M ≤ q → (∀ u, M < u → u ≤ q → f u = none) → bu f q = bu f M
  | 0, h, _ => by rw [show M = 0 from by omega]
  | q + 1, h, hn => by
    by_cases c : M = q + 1
    · rw [c]
    · rw [bu, if_pos (hn (q + 1) (by omega) (Nat.le_refl _))]
      exact bu_cut q (by omega) (fun u h1 h2 => hn u h1 (by omega))
