/-! PURE: entry, joined -/
theorem m_entry (x y : Int32) : MT (f_X6_entry x y) (f_X7_entry x y) := by
  intro σ τ B ⟨m, V, E, pres, kp, d, p, L, W, dl, pl, et, b, t, s, rd, h, n, g, hG⟩ hB
  obtain ⟨i, rfl, hi⟩ := argI x
  obtain ⟨w, rfl, hw⟩ := argI y
  have hQ := hG.2.2.1.1
  obtain ⟨c, sl, l1, l2, l3, l4, -⟩ := hQ.2.2.2.2.2.1
  have c1 := cWithin (σ := σ) (lo := 0) (hi := (c : Int) - 1) hi (by unfold R; omega) (by unfold R; omega)
  have c2 := cWithin (σ := σ) (lo := 0) (hi := 2) hw (by unfold R; omega) (by unfold R; omega)
  have r1 := rIn (σ := wi τ 102 0 (I 0)) (lo := 0) (hi := (c : Int) - 1) hi (by unfold R; omega) (by unfold R; omega)
  have r2 := rIn (σ := wi τ 102 0 (I 0)) (lo := 0) (hi := 2) hw (by unfold R; omega) (by unfold R; omega)
  have ec := c_entry l2 c1 c2 (bn_bnd _) (bn_bnd _)
  have er := r_entry hG.2.2.2.1.2.1 (bn_bnd pres) l3 r1 r2 (bn_bnd _) (bn_bnd _)
  rw [bn_mul] at ec er
  rw [bn_mul] at er
  obtain ⟨x, σ', τ', k1, k2, k3, k4⟩ := run_ok (a := bn (decide (0 ≤ i ∧ i ≤ (c : Int) - 1) && decide (0 ≤ w ∧ w ≤ 2))) (a' := bn (pres && (decide (0 ≤ i ∧ i ≤ (c : Int) - 1) && decide (0 ≤ w ∧ w ≤ 2)))) (low := I (-1)) (K := fun σ2 => (if I w = (0 : Int32) then (gd (inb (I i) 30) (some (σ2.1 73 (ix (I i)), σ2))) else (if I w = (1 : Int32) then (gd (inb (I i) 30) (some (σ2.1 74 (ix (I i)), σ2))) else (gd (inb (I i) 30) (some (σ2.1 75 (ix (I i)), σ2)))))) (K' := fun σ2 => gd (inb (((89 : Int32) + ((3 : Int32) * I i)) + I w) 179) (bd (f_X7_good (σ2.1 112 (ix (((89 : Int32) + ((3 : Int32) * I i)) + I w))) σ2) fun r3 σ4 => (f_X7_entry_77 r3 σ4))) (Rf := f_X7_refused)
    hG (bn_bnd _) (bn_bnd _) (fun q => by rw [q, Bool.true_and]) (fun c τ => refR) (fun _ ha _ _ => by
      have q : (decide (0 ≤ i ∧ i ≤ (c : Int) - 1) && decide (0 ≤ w ∧ w ≤ 2)) = true := by
        cases e : (decide (0 ≤ i ∧ i ≤ (c : Int) - 1) && decide (0 ≤ w ∧ w ≤ 2)) with
        | true => rfl
        | false => rw [e] at ha; cases ha
      obtain ⟨q1, q2⟩ := Bool.and_eq_true_iff.mp q
      have yi := of_decide_eq_true q1
      have yw := of_decide_eq_true q2
      obtain ⟨j, rfl⟩ := Int.eq_ofNat_of_zero_le yi.1
      obtain ⟨-, -, -, e1, e2, e3⟩ := l4 j (by omega)
      exact ⟨_, _, _, entry_K (σ := wi σ 0 12 (I 0)) (A := σ.1 73 j) (P := σ.1 74 j) (U := σ.1 75 j) (by omega) yw rfl rfl rfl, entry_R (τ := wi τ 102 0 (I 0)) (by omega) yw (by rw [wi_row (by decide)]; exact e1) (by rw [wi_row (by decide)]; exact e2) (by rw [wi_row (by decide)]; exact e3), QFr, RQr⟩)
  refine ⟨x, σ', τ', ?_, ?_, ⟨m, V, E, pres, kp, d, p, L, W, dl, pl, et, b, t, s, rd, h, n, g, GA_B k3 (by omega)⟩, k4⟩
  · rw [ec]; exact k1
  · rw [er]; exact k2
