/-! PURE: the reference's table of least costs -/
theorem r_init {V : Nat} {p but : Int} {d : MD} {x1 x2 : Int32} (hV : V ≤ 5) :
    ∀ (r u n : Nat) (σ : Wd), r < n → u + r = 121 → σ.1 102 14 = I (V : Int) →
      (∀ w, w < u → σ.1 116 (121 * V + w) = I (enc 100000000 (lcs d p but V 0 w))) →
      ∃ σ', f_X7_laysBest_2 n x1 x2 (I (u : Int)) σ = f_X7_laysBest_46 FU x1 x2 (I ((V : Int) - 1)) σ'
        ∧ (∀ k, k ≠ 116 → σ'.1 k = σ.1 k) ∧ σ'.2 = σ.2
        ∧ (∀ w, w ≤ 120 → σ'.1 116 (121 * V + w) = I (enc 100000000 (lcs d p but V 0 w)))
  | 0, u, n + 1, σ, _, hu, h, hw => by
    have hu : u = 121 := by omega
    subst hu
    refine ⟨σ, ?_, fun _ _ => rfl, rfl, fun w hw2 => hw w (by omega)⟩
    rw [f_X7_laysBest_2]
    dsimp only
    rw [if_pos (by decide), h]
    rw [show (1 : Int32) = I 1 from rfl, I_sub]
  | r + 1, u, n + 1, σ, hn, hu, h, hw => by
    have b1 : ¬ (120 : Int32) < I (u : Int) := by
      show ¬ I 120 < I (u : Int)
      rw [I_lt (by unfold R; omega) (by unfold R; omega)]; omega
    have b2 : (I (u : Int) = (0 : Int32)) ↔ u = 0 := by
      show (I (u : Int) = I 0) ↔ u = 0
      rw [I_eq (by unfold R; omega) (by unfold R; omega)]; omega
    have x1' : (121 : Int32) * I (V : Int) + I (u : Int) = I ((121 * V + u : Nat) : Int) := by
      rw [show (121 : Int32) = I 121 from rfl, I_mul, I_add]
      congr 1
    have a1 := inI (n := 121 * V + u) (N := 726) (by omega) (by omega)
    have a2 := ixI (n := 121 * V + u) (by omega)
    obtain ⟨σ', q1, q2, q3, q4⟩ := r_init (p := p) (but := but) (d := d) (x1 := x1) (x2 := x2) hV r (u + 1) n (wi σ 116 (121 * V + u) (I (enc 100000000 (lcs d p but V 0 u)))) (by omega) (by omega)
      (by rw [wi_row (by decide)]; exact h)
      (fun w hw2 => by
        by_cases c : w = u
        · subst c; rw [wi_eq]
        · rw [wi_ne (by omega)]; exact hw w (by omega))
    refine ⟨σ', ?_, fun k hk => by rw [q2 k hk, wi_row hk], q3, q4⟩
    rw [← q1, f_X7_laysBest_2]
    dsimp only
    rw [if_neg b1]
    simp only [h, x1', f_X7_laysBest_32, a1, a2, I1, b2]
    by_cases c : u = 0
    · rw [if_pos c]
      rw [show lcs d p but V 0 u = some 0 from by unfold lcs; rw [if_pos c]]
      rfl
    · rw [if_neg c]
      rw [show lcs d p but V 0 u = none from by unfold lcs; rw [if_neg c]]
      rfl
/-- all rows -/
theorem r_rows {V : Nat} {p but : Int} {d : MD} {x1 : Int32} (hd : MDok d V) (hp : R p) (hb : R but) :
    ∀ (r j n : Nat) (σ : Wd), r < n → j + r = V → RV σ V d → σ.1 102 12 = I p →
      (∀ i, i ≤ j → ∀ w, w ≤ 120 → σ.1 116 (121 * (V - i) + w) = I (enc 100000000 (lcs d p but V i w))) →
      ∃ σ', f_X7_laysBest_46 n x1 (I but) (I ((V : Int) - (j : Int) - 1)) σ = f_X7_laysBest_97 FU (I but) (wi σ' 102 37 x1)
        ∧ (∀ k, k ≠ 116 → σ'.1 k = σ.1 k) ∧ σ'.2 = σ.2
        ∧ (∀ i, i ≤ V → ∀ w, w ≤ 120 → σ'.1 116 (121 * (V - i) + w) = I (enc 100000000 (lcs d p but V i w)))
  | 0, j, n + 1, σ, _, hj, h, hlim, hg => by
    have hj : j = V := by omega
    subst hj
    refine ⟨σ, ?_, fun _ _ => rfl, rfl, hg⟩
    rw [f_X7_laysBest_46]
    dsimp only
    rw [show ((j : Int) - (j : Int) - 1) = -1 from by omega]
    rw [if_pos (by decide)]
    rfl
  | r + 1, j, n + 1, σ, hn, hj, h, hlim, hg => by
    have h5 := hd.1
    have b1 : ¬ I ((V : Int) - (j : Int) - 1) < 0 := by
      show ¬ I ((V : Int) - (j : Int) - 1) < I 0
      rw [I_lt (by unfold R; omega) (by unfold R; omega)]; omega
    obtain ⟨τ, t1, t2, t3, t4, t5⟩ := r_row (x1 := x1) (k46 := f_X7_laysBest_46 n) hd (show j + 1 ≤ V by omega) hp hb 121 0 FU σ (by show _ < 6000; omega) (by omega) h hlim (hg j (Nat.le_refl _)) (fun w hw => absurd hw (by omega))
    obtain ⟨σ', q1, q2, q3, q4⟩ := r_rows (x1 := x1) hd hp hb r (j + 1) n τ (by omega) (by omega)
      (RV_congr h (by rw [t2 102 (by decide)]) (t2 103 (by decide)) (t2 104 (by decide)) (t2 112 (by decide))) (by rw [t2 102 (by decide)]; exact hlim)
      (fun i hi w hw => by
        by_cases c : i = j + 1
        · subst c; exact t5 w hw
        · rw [t4 _ (by omega)]
          exact hg i (by omega) w hw)
    refine ⟨σ', ?_, fun k hk => by rw [q2 k hk, t2 k hk], by rw [q3, t3], q4⟩
    rw [← q1, f_X7_laysBest_46]
    dsimp only
    rw [if_neg b1]
    rw [show I ((V : Int) - (j : Int) - 1) = I ((V - (j + 1) : Nat) : Int) from by congr 1; omega]
    rw [show (0 : Int32) = I ((0 : Nat) : Int) from rfl, t1]
    rw [show (-1 : Int32) = I (-1) from rfl, I_add]
    congr 2
    omega
