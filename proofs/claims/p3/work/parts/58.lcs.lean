/-! PURE: the least cost of u units over the last j venues -/
/-- how many lots of venue v fit into u units, venue but left out -/
def kx (d : MD) (p but : Int) (v u : Nat) : Nat := if (v : Int) = but then 0 else min u (dep d p v).toNat / (d.lo v).toNat
def lcs (d : MD) (p but : Int) (V : Nat) : Nat → Nat → Option Int
  | 0, u => if u = 0 then some 0 else none
  | j + 1, u => mnf (fun i => oadd (cst d (V - (j + 1)) ((i * (d.lo (V - (j + 1))).toNat : Nat) : Int)) (lcs d p but V j (u - i * (d.lo (V - (j + 1))).toNat))) (kx d p but (V - (j + 1)) u)
theorem OB_mnf {b : Int} {f : Nat → Option Int} : ∀ {K : Nat}, (∀ i, i ≤ K → OB b (f i)) → OB b (mnf f K)
  | 0, h => h 0 (Nat.le_refl _)
  | K + 1, h => OB_omin (OB_mnf (fun i hi => h i (by omega))) (h (K + 1) (Nat.le_refl _))
theorem OB_oadd {a b c : Int} {o : Option Int} (h1 : -a ≤ c) (h2 : c ≤ a) (h : OB b o) : OB (a + b) (oadd c o) := by
  cases o with
  | none => intro x hx; cases hx
  | some y =>
    intro x hx
    have hx : some (c + y) = some x := hx
    have hx := Option.some.inj hx
    have := h y rfl
    omega
theorem OB_mono {a b : Int} {o : Option Int} (hab : a ≤ b) (h : OB a o) : OB b o := fun x hx => by
  have := h x hx
  omega
theorem kx_le {d : MD} {V v u : Nat} {p but : Int} (hd : MDok d V) (hv : v < V) : kx d p but v u * (d.lo v).toNat ≤ u := by
  obtain ⟨-, lb, -⟩ := hd.2 v hv
  unfold kx
  split
  · omega
  · have := (div_box (M := min u (dep d p v).toNat) (l := (d.lo v).toNat) (by omega)).1
    omega
theorem kx_whl {d : MD} {V v u : Nat} {p but : Int} (hd : MDok d V) (hv : v < V) : (if (v : Int) = but then 0 else whl d p v (u : Int)) = ((kx d p but v u * (d.lo v).toNat : Nat) : Int) := by
  obtain ⟨-, lb, -⟩ := hd.2 v hv
  obtain ⟨d1, d2⟩ := dep_bnd (p := p) hd hv
  unfold kx
  by_cases c : (v : Int) = but
  · rw [if_pos c, if_pos c, Nat.zero_mul]; rfl
  · rw [if_neg c, if_neg c]
    unfold whl
    obtain ⟨D, hD⟩ := Int.eq_ofNat_of_zero_le d1
    obtain ⟨L, hL⟩ := Int.eq_ofNat_of_zero_le (show 0 ≤ d.lo v by omega)
    rw [hD, hL]
    have e0 : (if (u : Int) ≤ (D : Int) then (u : Int) else (D : Int)) = ((min u D : Nat) : Int) := by
      split <;> omega
    rw [e0, Int.toNat_natCast, Int.toNat_natCast]
    have e := Nat.div_add_mod (min u D) L
    rw [Nat.mul_comm] at e
    have e2 : ((min u D : Nat) : Int) % (L : Int) = ((min u D % L : Nat) : Int) := rfl
    rw [e2]
    omega
theorem lcs_OB {d : MD} {V : Nat} {p but : Int} (hd : MDok d V) : ∀ (j u : Nat), j ≤ V → u ≤ 120 → OB (1100000 * (j : Int)) (lcs d p but V j u)
  | 0, u, _, _ => by
    intro x hx
    unfold lcs at hx
    split at hx
    · have := Option.some.inj hx
      omega
    · cases hx
  | j + 1, u, hj, hu => by
    unfold lcs
    refine OB_mnf (fun i hi => ?_)
    have hv : V - (j + 1) < V := by omega
    have k1 := kx_le (p := p) (but := but) (u := u) hd hv
    have k2 : i * (d.lo (V - (j + 1))).toNat ≤ kx d p but (V - (j + 1)) u * (d.lo (V - (j + 1))).toNat := Nat.mul_le_mul_right _ hi
    obtain ⟨c1, c2⟩ := cst_bnd (n := ((i * (d.lo (V - (j + 1))).toNat : Nat) : Int)) hd hv (by omega) (by omega)
    have ih := lcs_OB (p := p) (but := but) hd j (u - i * (d.lo (V - (j + 1))).toNat) (by omega) (by omega)
    exact OB_mono (by omega) (OB_oadd (a := 1100000) (by omega) (by omega) ih)
/-- one number of the reference's table -/
theorem r_lcs {σ : Wd} {V j u : Nat} {p but : Int} {d : MD} (h : RV σ V d) (hd : MDok d V) (hj : j + 1 ≤ V) (hp : R p) (hlim : σ.1 102 12 = I p) (hb : R but) (hu : u ≤ 120)
    (hg : ∀ w, w ≤ 120 → σ.1 116 (121 * (V - j) + w) = I (enc 100000000 (lcs d p but V j w))) :
    f_X7_leastFrom (I ((V - (j + 1) : Nat) : Int)) (I (u : Int)) (I but) σ = some (I (enc 100000000 (lcs d p but V (j + 1) u)), σ) := by
  have hv : V - (j + 1) < V := by omega
  obtain ⟨-, lb, -⟩ := hd.2 _ hv
  have h5 := hd.1
  have k1 := kx_le (p := p) (but := but) (u := u) hd hv
  refine lc7_ok (K := kx d p but (V - (j + 1)) u) (l := (d.lo (V - (j + 1))).toNat) (g := fun i => lcs d p but V j (u - i * (d.lo (V - (j + 1))).toNat)) h hd hv hp hlim hb hu (by omega) k1 (kx_whl hd hv) (fun i hi => ?_) (fun i hi => ?_)
  · have k2 : i * (d.lo (V - (j + 1))).toNat ≤ kx d p but (V - (j + 1)) u * (d.lo (V - (j + 1))).toNat := Nat.mul_le_mul_right _ hi
    rw [show 121 * (V - (j + 1) + 1) + u - i * (d.lo (V - (j + 1))).toNat = 121 * (V - j) + (u - i * (d.lo (V - (j + 1))).toNat) from by omega]
    exact hg _ (by omega)
  · exact OB_mono (by omega) (lcs_OB hd j _ (by omega) (by omega))
theorem RV_congr {σ τ : Wd} {V : Nat} {d : MD} (h : RV σ V d) (e1 : τ.1 102 14 = σ.1 102 14) (e2 : τ.1 103 = σ.1 103) (e3 : τ.1 104 = σ.1 104) (e4 : τ.1 112 = σ.1 112) : RV τ V d := by
  unfold RV at h ⊢
  rw [e1, e2, e3, e4]
  exact h
/-- a row of the reference's table -/
theorem r_row {V j : Nat} {p but : Int} {d : MD} {x1 : Int32} {k46 : Int32 → Int32 → Int32 → Wd → Option (Int32 × Wd)} (hd : MDok d V) (hj : j + 1 ≤ V) (hp : R p) (hb : R but) :
    ∀ (r u n : Nat) (σ : Wd), r < n → u + r = 121 → RV σ V d → σ.1 102 12 = I p →
      (∀ w, w ≤ 120 → σ.1 116 (121 * (V - j) + w) = I (enc 100000000 (lcs d p but V j w))) →
      (∀ w, w < u → σ.1 116 (121 * (V - (j + 1)) + w) = I (enc 100000000 (lcs d p but V (j + 1) w))) →
      ∃ σ', f_X7_laysBest_53 k46 n x1 (I but) (I ((V - (j + 1) : Nat) : Int)) (I (u : Int)) σ = k46 x1 (I but) (I ((V - (j + 1) : Nat) : Int) + (-1 : Int32)) σ'
        ∧ (∀ k, k ≠ 116 → σ'.1 k = σ.1 k) ∧ σ'.2 = σ.2 ∧ (∀ i, 121 * (V - j) ≤ i → σ'.1 116 i = σ.1 116 i)
        ∧ (∀ w, w ≤ 120 → σ'.1 116 (121 * (V - (j + 1)) + w) = I (enc 100000000 (lcs d p but V (j + 1) w)))
  | 0, u, n + 1, σ, _, hu, h, hlim, hg, hw => by
    have hu : u = 121 := by omega
    subst hu
    refine ⟨σ, ?_, fun _ _ => rfl, rfl, fun _ _ => rfl, fun w hw2 => hw w (by omega)⟩
    rw [f_X7_laysBest_53]
    dsimp only
    rw [if_pos (by decide)]
  | r + 1, u, n + 1, σ, hn, hu, h, hlim, hg, hw => by
    have h5 := hd.1
    have b1 : ¬ (120 : Int32) < I (u : Int) := by
      show ¬ I 120 < I (u : Int)
      rw [I_lt (by unfold R; omega) (by unfold R; omega)]; omega
    have x1' : (121 : Int32) * I ((V - (j + 1) : Nat) : Int) + I (u : Int) = I ((121 * (V - (j + 1)) + u : Nat) : Int) := by
      rw [show (121 : Int32) = I 121 from rfl, I_mul, I_add]
      congr 1
    have a1 := inI (n := 121 * (V - (j + 1)) + u) (N := 726) (by omega) (by omega)
    have a2 := ixI (n := 121 * (V - (j + 1)) + u) (by omega)
    have e := r_lcs h hd hj hp hlim hb (show u ≤ 120 by omega) hg
    obtain ⟨σ', q1, q2, q3, q4, q5⟩ := r_row (x1 := x1) (k46 := k46) hd hj hp hb r (u + 1) n (wi σ 116 (121 * (V - (j + 1)) + u) (I (enc 100000000 (lcs d p but V (j + 1) u)))) (by omega) (by omega)
      (RV_congr h (by rw [wi_row (by decide)]) (wi_row (by decide)) (wi_row (by decide)) (wi_row (by decide))) (by rw [wi_row (by decide)]; exact hlim)
      (fun w hw2 => by rw [wi_ne (by omega)]; exact hg w hw2)
      (fun w hw2 => by
        by_cases c : w = u
        · subst c; rw [wi_eq]
        · rw [wi_ne (by omega)]; exact hw w (by omega))
    refine ⟨σ', ?_, fun k hk => by rw [q2 k hk, wi_row hk], q3, fun i hi => by rw [q4 i hi, wi_ne (by omega)], q5⟩
    rw [← q1, f_X7_laysBest_53]
    dsimp only
    rw [if_neg b1]
    simp only [e, bd_s, x1', a1, a2, I1]
    rfl
