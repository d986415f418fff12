/-! PURE: the shares of the best split: each the largest that attains the least cost -/
def lst (f : Nat → Option Int) (t : Option Int) : Nat → Nat
  | 0 => 0
  | K + 1 => if f (K + 1) = t then K + 1 else lst f t K
theorem lst_le {f : Nat → Option Int} {t : Option Int} : ∀ K, lst f t K ≤ K
  | 0 => Nat.le_refl _
  | K + 1 => by
    unfold lst
    split
    · exact Nat.le_refl _
    · have := lst_le (f := f) (t := t) K
      omega
theorem lst_at {f : Nat → Option Int} {t : Option Int} : ∀ K, (∃ a, a ≤ K ∧ f a = t) → f (lst f t K) = t
  | 0, ⟨a, h1, h2⟩ => by
    have : a = 0 := by omega
    subst this
    exact h2
  | K + 1, ⟨a, h1, h2⟩ => by
    unfold lst
    by_cases c : f (K + 1) = t
    · rw [if_pos c]; exact c
    · rw [if_neg c]
      refine lst_at K ⟨a, ?_, h2⟩
      by_cases e : a = K + 1
      · subst e; exact absurd h2 c
      · omega
set_option maxHeartbeats 1000000 in
theorem r_share {σ : Wd} {V v u l K : Nat} {d : MD} {y : Int} {g : Nat → Option Int} {x1 : Int32} {k7 : Int32 → Int32 → Int32 → Wd → Option (Int32 × Wd)} (h : RV σ V d) (hd : MDok d V) (hv : v < V) (hu : u ≤ 120) (hl : d.lo v = (l : Int)) (hK : K * l ≤ u)
    (hg : ∀ i, i ≤ K → σ.1 116 (121 * (v + 1) + u - i * l) = I (enc 100000000 (g i))) (hgb : ∀ i, i ≤ K → OB 10000000 (g i))
    (ht : σ.1 116 (121 * v + u) = I y) (hy : -20000000 ≤ y ∧ y ≤ 20000000) :
    ∀ (i n : Nat), i < n → i ≤ K → (∃ a, a ≤ i ∧ oadd (cst d v ((a * l : Nat) : Int)) (g a) = some y) →
      f_X7_laysShares_24 k7 n x1 (I (u : Int)) (I (v : Int)) (I ((i * l : Nat) : Int)) σ
        = k7 x1 (I ((u - lst (fun a => oadd (cst d v ((a * l : Nat) : Int)) (g a)) (some y) i * l : Nat) : Int)) (I ((v + 1 : Nat) : Int)) (wi σ 117 v (I ((lst (fun a => oadd (cst d v ((a * l : Nat) : Int)) (g a)) (some y) i * l : Nat) : Int)))
  | i, 0, hn, _, _ => absurd hn (by omega)
  | i, n + 1, hn, hi, hex => by
    have v5 : v < 5 := Nat.lt_of_lt_of_le hv hd.1
    obtain ⟨-, lb, -⟩ := hd.2 v hv
    have m1 : i * l ≤ K * l := Nat.mul_le_mul_right l hi
    obtain ⟨c1, c2⟩ := cst_bnd (n := ((i * l : Nat) : Int)) hd hv (by omega) (by omega)
    have x1' : ((121 : Int32) * (I (v : Int) + (1 : Int32)) + I (u : Int)) - I ((i * l : Nat) : Int) = I ((121 * (v + 1) + u - i * l : Nat) : Int) := by
      rw [show (1 : Int32) = I 1 from rfl, show (121 : Int32) = I 121 from rfl, I_add, I_mul, I_add, I_sub]
      congr 1
      omega
    have x2' : (121 : Int32) * I (v : Int) + I (u : Int) = I ((121 * v + u : Nat) : Int) := by
      rw [show (121 : Int32) = I 121 from rfl, I_mul, I_add]
      congr 1
    have x3' : I (u : Int) - I ((i * l : Nat) : Int) = I ((u - i * l : Nat) : Int) := by
      rw [I_sub]
      congr 1
      omega
    have a1 := inI (n := 121 * (v + 1) + u - i * l) (N := 726) (by omega) (by omega)
    have a2 := ixI (n := 121 * (v + 1) + u - i * l) (by omega)
    have a3 := inI (n := 121 * v + u) (N := 726) (by omega) (by omega)
    have a4 := ixI (n := 121 * v + u) (by omega)
    have a5 := inI (n := v) (N := 5) v5 (by omega)
    have a6 := ixI (n := v) (by omega)
    -- where this one does not attain it
    have down : oadd (cst d v ((i * l : Nat) : Int)) (g i) ≠ some y →
        f_X7_laysShares_84 k7 (f_X7_laysShares_24 k7 n) x1 (I (u : Int)) (I (v : Int)) (I ((i * l : Nat) : Int)) σ
          = k7 x1 (I ((u - lst (fun a => oadd (cst d v ((a * l : Nat) : Int)) (g a)) (some y) i * l : Nat) : Int)) (I ((v + 1 : Nat) : Int)) (wi σ 117 v (I ((lst (fun a => oadd (cst d v ((a * l : Nat) : Int)) (g a)) (some y) i * l : Nat) : Int))) := by
      intro hne
      obtain ⟨a, h1, h2⟩ := hex
      have hai : a ≠ i := fun e => hne (e ▸ h2)
      match i, hn, hi, hne, h1, hai with
      | 0, _, _, _, h1, hai => exact absurd h1 (by omega)
      | i + 1, hn, hi, hne, h1, hai =>
        unfold f_X7_laysShares_84
        rw [rLot h hd hv, bd_s, hl, I_sub]
        rw [show ((((i + 1) * l : Nat) : Int) - (l : Int)) = ((i * l : Nat) : Int) from by rw [Nat.succ_mul]; omega]
        rw [r_share h hd hv hu hl hK hg hgb ht hy i n (by omega) (by omega) ⟨a, by omega, h2⟩]
        rw [show lst (fun a => oadd (cst d v ((a * l : Nat) : Int)) (g a)) (some y) (i + 1) = lst (fun a => oadd (cst d v ((a * l : Nat) : Int)) (g a)) (some y) i from by rw [lst, if_neg hne]]
    have gb := hgb i hi
    rw [f_X7_laysShares_24]
    dsimp only
    simp only [x1', x2', x3', a1, a2, a3, a4, a5, a6, hg i hi, ht, rCost h hd hv (n := ((i * l : Nat) : Int)) (by omega) (by omega), bd_s]
    cases hgi : g i with
    | none =>
      have b1 : (50000000 : Int32) ≤ I (enc 100000000 none) := by
        show I 50000000 ≤ I 100000000
        rw [I_le (by unfold R; omega) (by unfold R; omega)]; omega
      rw [if_pos b1]
      exact down (by rw [hgi]; exact fun h => by cases h)
    | some z =>
      have zb := gb z hgi
      have b1 : ¬ (50000000 : Int32) ≤ I (enc 100000000 (some z)) := by
        show ¬ I 50000000 ≤ I z
        rw [I_le (by unfold R; omega) (by unfold R; omega)]; omega
      have sm : I (cst d v ((i * l : Nat) : Int)) + I (enc 100000000 (some z)) = I (cst d v ((i * l : Nat) : Int) + z) := I_add _ _
      have b2 : (I (cst d v ((i * l : Nat) : Int) + z) = I y) ↔ cst d v ((i * l : Nat) : Int) + z = y := I_eq (by unfold R; omega) (by unfold R; omega)
      rw [if_neg b1]
      simp only [sm, b2]
      show (if cst d v ((i * l : Nat) : Int) + z = y then _ else _) = _
      by_cases c : cst d v ((i * l : Nat) : Int) + z = y
      · rw [if_pos c]
        have e : lst (fun a => oadd (cst d v ((a * l : Nat) : Int)) (g a)) (some y) i = i := by
          cases i with
          | zero => rfl
          | succ i =>
            rw [lst, if_pos]
            show oadd _ (g (i + 1)) = some y
            rw [hgi, ← c]
            rfl
        rw [e, ← I1]
        rfl
      · rw [if_neg c]
        refine down ?_
        rw [hgi]
        intro q
        exact c (Option.some.inj q)
