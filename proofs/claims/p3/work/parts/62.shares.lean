/-! PURE: the shares of all venues, as the reference lays them -/
/-- what the last j venues give of u units: the first of them, by lots -/
def sh1 (d : MD) (p but : Int) (V j u : Nat) : Nat := lst (fun i => oadd (cst d (V - (j + 1)) ((i * (d.lo (V - (j + 1))).toNat : Nat) : Int)) (lcs d p but V j (u - i * (d.lo (V - (j + 1))).toNat))) (lcs d p but V (j + 1) u) (kx d p but (V - (j + 1)) u) * (d.lo (V - (j + 1))).toNat
def shs (d : MD) (p but : Int) (V : Nat) : Nat → Nat → Nat → Nat
  | 0, _, _ => 0
  | j + 1, u, v => if v = V - (j + 1) then sh1 d p but V j u else shs d p but V j (u - sh1 d p but V j u) v
theorem r_shares {V : Nat} {p but : Int} {d : MD} (hd : MDok d V) (hp : R p) (hb : R but) :
    ∀ (j n u : Nat) (σ : Wd), j < n → j ≤ V → u ≤ 120 → lcs d p but V j u ≠ none → RV σ V d → σ.1 102 12 = I p →
      (∀ i, i ≤ V → ∀ w, w ≤ 120 → σ.1 116 (121 * (V - i) + w) = I (enc 100000000 (lcs d p but V i w))) →
      ∃ σ', f_X7_laysShares_7 n (I but) (I (u : Int)) (I ((V - j : Nat) : Int)) σ = some (0, σ')
        ∧ (∀ k, k ≠ 117 → σ'.1 k = σ.1 k) ∧ σ'.2 = σ.2
        ∧ (∀ v, V - j ≤ v → v < V → σ'.1 117 v = I (shs d p but V j u v : Int)) ∧ (∀ v, v < V - j → σ'.1 117 v = σ.1 117 v)
  | 0, n + 1, u, σ, hn, hj, hu, hs, h, hlim, hg => by
    have h5 := hd.1
    refine ⟨σ, ?_, fun _ _ => rfl, rfl, fun v h1 h2 => absurd h2 (by omega), fun _ _ => rfl⟩
    have b1 : I (V : Int) ≤ I ((V - 0 : Nat) : Int) := by
      rw [I_le (by unfold R; omega) (by unfold R; omega)]; omega
    rw [f_X7_laysShares_7]
    dsimp only
    rw [h.1, if_pos b1]
  | j + 1, n + 1, u, σ, hn, hj, hu, hs, h, hlim, hg => by
    have h5 := hd.1
    have hv : V - (j + 1) < V := by omega
    obtain ⟨-, lb, -⟩ := hd.2 _ hv
    have k1 := kx_le (p := p) (but := but) (u := u) hd hv
    have kK : kx d p but (V - (j + 1)) u ≤ kx d p but (V - (j + 1)) u * (d.lo (V - (j + 1))).toNat := Nat.le_mul_of_pos_right _ (by omega)
    have b1 : ¬ I (V : Int) ≤ I ((V - (j + 1) : Nat) : Int) := by
      rw [I_le (by unfold R; omega) (by unfold R; omega)]; omega
    obtain ⟨y, hy⟩ := Option.ne_none_iff_exists'.mp hs
    have yb := lcs_OB (p := p) (but := but) hd (j + 1) u hj hu y hy
    have at1 := mnf_at (show mnf _ _ = some y from hy)
    have hl1 := lst_le (f := fun i => oadd (cst d (V - (j + 1)) ((i * (d.lo (V - (j + 1))).toNat : Nat) : Int)) (lcs d p but V j (u - i * (d.lo (V - (j + 1))).toNat))) (t := some y) (kx d p but (V - (j + 1)) u)
    have hl2 := lst_at _ at1
    have es : sh1 d p but V j u = lst (fun i => oadd (cst d (V - (j + 1)) ((i * (d.lo (V - (j + 1))).toNat : Nat) : Int)) (lcs d p but V j (u - i * (d.lo (V - (j + 1))).toNat))) (some y) (kx d p but (V - (j + 1)) u) * (d.lo (V - (j + 1))).toNat := by
      unfold sh1; rw [hy]
    have sn : lcs d p but V j (u - sh1 d p but V j u) ≠ none := by
      intro q
      rw [es] at q
      rw [q] at hl2
      cases hl2
    obtain ⟨σ', q1, q2, q3, q4, q5⟩ := r_shares hd hp hb j n (u - sh1 d p but V j u) (wi σ 117 (V - (j + 1)) (I (sh1 d p but V j u : Int))) (by omega) (by omega) (by omega) sn
      (RV_congr h (by rw [wi_row (by decide)]) (wi_row (by decide)) (wi_row (by decide)) (wi_row (by decide))) (by rw [wi_row (by decide)]; exact hlim)
      (fun i hi w hw => by rw [wi_row (by decide)]; exact hg i hi w hw)
    refine ⟨σ', ?_, fun k hk => by rw [q2 k hk, wi_row hk], q3, fun v h1 h2 => ?_, fun v h1 => by rw [q5 v (by omega), wi_ne (by omega)]⟩
    · rw [← q1, f_X7_laysShares_7]
      dsimp only
      rw [h.1, if_neg b1, rMost h hd hv hp hlim (q := (u : Int)) (by omega) (by omega) hb, bd_s, kx_whl hd hv]
      have e0 := r_share (K := kx d p but (V - (j + 1)) u) (l := (d.lo (V - (j + 1))).toNat) (y := y) (x1 := I but) (k7 := f_X7_laysShares_7 n) (g := fun i => lcs d p but V j (u - i * (d.lo (V - (j + 1))).toNat)) h hd hv hu (by omega) k1
        (fun i hi => by
          have k2 : i * (d.lo (V - (j + 1))).toNat ≤ kx d p but (V - (j + 1)) u * (d.lo (V - (j + 1))).toNat := Nat.mul_le_mul_right _ hi
          rw [show 121 * (V - (j + 1) + 1) + u - i * (d.lo (V - (j + 1))).toNat = 121 * (V - j) + (u - i * (d.lo (V - (j + 1))).toNat) from by omega]
          exact hg j (by omega) _ (by omega))
        (fun i hi => OB_mono (by omega) (lcs_OB hd j _ (by omega) (by omega)))
        (by rw [hg (j + 1) hj u hu, hy]; rfl) (by omega) (kx d p but (V - (j + 1)) u) FU (by show _ < 6000; omega) (Nat.le_refl _) at1
      rw [e0, es, show V - (j + 1) + 1 = V - j from by omega]
    · unfold shs
      by_cases c : v = V - (j + 1)
      · rw [if_pos c, c, q5 _ (by omega), wi_eq]
      · rw [if_neg c]
        exact q4 v (by omega) h2
