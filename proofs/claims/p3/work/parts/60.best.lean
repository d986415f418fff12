/-! PURE: the most units, at most u, that a split can buy -/
def bu (f : Nat → Option Int) : Nat → Nat
  | 0 => 0
  | u + 1 => if f (u + 1) = none then bu f u else u + 1
theorem bu_le {f : Nat → Option Int} : ∀ u, bu f u ≤ u
  | 0 => Nat.le_refl _
  | u + 1 => by
    unfold bu
    split
    · have := bu_le (f := f) u
      omega
    · exact Nat.le_refl _
theorem bu_some {f : Nat → Option Int} (h : f 0 ≠ none) : ∀ u, f (bu f u) ≠ none
  | 0 => h
  | u + 1 => by
    unfold bu
    split
    · exact bu_some h u
    · assumption
theorem lcs_0 {d : MD} {V : Nat} {p but : Int} : ∀ j, lcs d p but V j 0 = some 0
  | 0 => rfl
  | j + 1 => by
    have k : kx d p but (V - (j + 1)) 0 = 0 := by
      unfold kx
      split
      · rfl
      · rw [show min 0 (dep d p (V - (j + 1))).toNat = 0 from by omega, Nat.zero_div]
    unfold lcs
    rw [k]
    show oadd (cst d (V - (j + 1)) ((0 * (d.lo (V - (j + 1))).toNat : Nat) : Int)) (lcs d p but V j (0 - 0 * (d.lo (V - (j + 1))).toNat)) = some 0
    rw [Nat.zero_mul, show (0 - 0 : Nat) = 0 from rfl, lcs_0 j, show (((0 : Nat) : Int)) = 0 from rfl, cst_0]
    rfl
theorem r_best {V : Nat} {p but : Int} {d : MD} {x2 : Int32} (hd : MDok d V) :
    ∀ (u n : Nat) (σ : Wd), u < n → u ≤ 120 → σ.1 102 37 = I (u : Int) →
      (∀ w, w ≤ 120 → σ.1 116 w = I (enc 100000000 (lcs d p but V V w))) →
      ∃ τ, f_X7_laysBest_97 n x2 σ = bd (f_X7_laysShares x2 τ) (fun _ σ2 => some (0, σ2))
        ∧ τ.1 102 37 = I (bu (lcs d p but V V) u : Int) ∧ τ.1 102 38 = I (enc 100000000 (lcs d p but V V (bu (lcs d p but V V) u)))
        ∧ (∀ k, k ≠ 102 → τ.1 k = σ.1 k) ∧ (∀ i, i ≠ 37 → i ≠ 38 → τ.1 102 i = σ.1 102 i) ∧ τ.2 = σ.2
  | u, 0, _, hn, _, _, _ => absurd hn (by omega)
  | u, n + 1, σ, hn, hu, hs, hg => by
    have a1 := inI (n := u) (N := 726) (by omega) (by omega)
    have a2 := ixI (n := u) (by omega)
    have ob := lcs_OB (p := p) (but := but) hd V u (Nat.le_refl _) hu
    have h5 := hd.1
    cases hl : lcs d p but V V u with
    | some y =>
      have yb := ob y hl
      have bu' : bu (lcs d p but V V) u = u := by
        cases u with
        | zero => rfl
        | succ u =>
          unfold bu
          rw [if_neg (by rw [hl]; exact fun h => by cases h)]
      have b1 : I (enc 100000000 (some y)) < (50000000 : Int32) := by
        show I y < I 50000000
        rw [I_lt (by unfold R; omega) (by unfold R; omega)]; omega
      refine ⟨wi σ 102 38 (I (enc 100000000 (some y))), ?_, ?_, ?_, fun k hk => wi_row hk, fun i h1 h2 => wi_ne h2, rfl⟩
      · rw [f_X7_laysBest_97]
        dsimp only
        simp only [hs, a1, a2, hg u hu, hl]
        rw [if_pos b1]
        rfl
      · rw [wi_ne (by decide), bu']; exact hs
      · rw [wi_eq, bu', hl]
    | none =>
      have b1 : ¬ I (enc 100000000 none) < (50000000 : Int32) := by
        show ¬ I 100000000 < I 50000000
        rw [I_lt (by unfold R; omega) (by unfold R; omega)]; omega
      cases u with
      | zero => rw [lcs_0] at hl; cases hl
      | succ u =>
        have bu' : bu (lcs d p but V V) (u + 1) = bu (lcs d p but V V) u := by
          rw [bu, if_pos hl]
        have e : I ((u + 1 : Nat) : Int) - (1 : Int32) = I (u : Int) := by
          rw [show (1 : Int32) = I 1 from rfl, I_sub]
          congr 1
          omega
        obtain ⟨τ, q1, q2, q3, q4, q5, q6⟩ := r_best (x2 := x2) (p := p) (but := but) hd u n (wi σ 102 37 (I (u : Int))) (by omega) (by omega) wi_eq (fun w hw => by rw [wi_row (by decide)]; exact hg w hw)
        refine ⟨τ, ?_, by rw [bu']; exact q2, by rw [bu']; exact q3, fun k hk => by rw [q4 k hk, wi_row hk], fun i h1 h2 => by rw [q5 i h1 h2, wi_ne h1], q6⟩
        rw [← q1, f_X7_laysBest_97]
        dsimp only
        simp only [hs, a1, a2, hg (u + 1) hu, hl, e]
        rw [if_neg b1]
        rfl
