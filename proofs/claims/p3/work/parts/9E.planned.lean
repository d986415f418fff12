/-! PURE: planned -/
theorem m_planned (x : Int32) : MT (f_X6_planned x) (f_X7_planned x) := by
  intro σ τ B ⟨m, V, E, pres, kp, d, p, L, W, dl, pl, et, b, t, s, rd, h, n, g, hG⟩ hB
  obtain ⟨w, rfl, hw⟩ := argI x
  obtain ⟨bm, m10, m63⟩ := bMm hG.1
  have hM0 := hG.2.2.1.1.1
  have h5 := hM0.1.1
  have g21 := hG.2.2.2.1.2.1
  have e1 := (ps2 hM0).1
  have e2 := (ps2 (QM_wi m10 hM0 (I 0))).2
  have c1 := cWithin (σ := σ) (lo := 0) (hi := 2) hw (by unfold R; omega) (by unfold R; omega)
  have c2 := rIn (σ := wi τ 102 0 (I 0)) (lo := 0) (hi := 2) hw (by unfold R; omega) (by unfold R; omega)
  obtain ⟨x, σ', τ', k1, k2, k3, k4⟩ := grq_ok (a := bn (decide (0 ≤ w ∧ w ≤ 2))) (nn := 1) (ss := bn (ps d p W pl V V 0)) (low := I (-2147483648)) (K := fun σ7 => (if I w = 0 then (gd (bM (σ7.2.2 0 4)) (bd (f_X3_planUnits (σ7.2.2 0 4) σ7) fun r9 σ10 => some (r9, σ10))) else (if I w = (1 : Int32) then (gd (bM (σ7.2.2 0 4)) (bd (f_X3_planCost (σ7.2.2 0 4) σ7) fun r12 σ13 => some (r12, σ13))) else (gd (bM (σ7.2.2 0 4)) (gd (bM (σ7.2.2 0 4)) (bd (f_X3_planUnits (σ7.2.2 0 4) σ7) fun r16 σ17 => bd (f_X1_choose (σ7.2.2 0 4) r16 (-1 : Int32) σ17) fun _ σ18 => gd (bM (σ18.2.2 0 4)) (bd (f_X3_planCost (σ18.2.2 0 4) σ18) fun r20 σ21 => some (r20 - (σ21.1 4 1), σ21)))))))) (fr := f_X7_planned (I w))
    hG (bn_bnd _) (by omega) (bn_bnd _)
    (fun hc => by
      rcases tc_cases (pres := pres) (a := bn (decide (0 ≤ w ∧ w ≤ 2))) (n := 1) (s := bn (ps d p W pl V V 0)) with ⟨q1, q2⟩ | ⟨q1, q2, q3⟩ | ⟨-, -, q2, -⟩ | ⟨q1, q2, -, q3, q4⟩ | ⟨-, -, -, -, q2⟩
      · rw [q2]; exact pl_1 g21 c2 (Or.inl (by rw [q1]; rfl))
      · rw [q3]; exact pl_1 g21 c2 (Or.inr ⟨by rw [q1]; rfl, q2⟩)
      · omega
      · rw [q4]; exact pl_5 g21 (by rw [q1]; rfl) (rIn1 hw (by unfold R; omega) (by unfold R; omega) (bn_n0 q2)) e2 q3
      · exact absurd q2 hc)
    (fun hp ha _ hs hM hR => by
      have y := bn_1 ha
      have ri := rIn1 (σ := wi τ 102 0 (I 0)) (lo := 0) (hi := 2) hw (by unfold R; omega) (by unfold R; omega) y
      have x1 : bn pres = 1 := by rw [hp]; rfl
      have pt : ps d p W pl V V 0 = true := by
        cases e : ps d p W pl V V 0 with
        | true => rfl
        | false => rw [e] at hs; cases hs
      have pw := ps_pu V 0 pt
      have pb := pu_bnd (QM_pb hM) V 0 (by omega)
      have W1 := hM.2.2.2.2.2.1.2.2.2
      have hm : (wi σ 0 12 (I 0)).2.2 0 4 = m := hG.2.1
      have u1 := cPU hM.2.1.1 h5 (fun v hv => (hM.2.2.2.2.2.2.2 v hv).1)
      have u2 := rPU hM.2.2.1.1 h5 (fun v hv => (hM.2.2.2.2.2.2.2 v hv).2.1)
      rcases (show w = 0 ∨ w = 1 ∨ w = 2 by omega) with c | c | c
      · exact ⟨_, _, _, plK_a hm bm u1 c, pl_a g21 x1 ri e2 hs u2 c, QFr, RQr⟩
      · have v1 := cPC hM.2.1 hM.1 (QM_pb hM) (fun v hv => (hM.2.2.2.2.2.2.2 v hv).1)
        have v2 := rPC hM.2.2.1 hM.1 (QM_pb hM) (fun v hv => (hM.2.2.2.2.2.2.2 v hv).2.1)
        exact ⟨_, _, _, plK_b hm bm v1 c, pl_b g21 x1 ri e2 hs u2 v2 c, QFr, RQr⟩
      · obtain ⟨σ1, τ1, U, C, sh, f1, f2, f3, f4, ⟨f5, f5'⟩, f6, f7, f8, f9⟩ := best2 (but := -1) m10 hM pb.1 (by omega) (by unfold R; omega)
        have v1 := cPC f9.2.1 f9.1 (QM_pb f9) (fun v hv => (f9.2.2.2.2.2.2.2 v hv).1)
        have v2 := rPC f9.2.2.1 f9.1 (QM_pb f9) (fun v hv => (f9.2.2.2.2.2.2.2 v hv).2.1)
        have hm1 : σ1.2.2 0 4 = m := by rw [f7.2]; exact hm
        by_cases P0 : pu pl V 0 = 0
        · have z : ∀ w, 0 ≤ w → w < 0 + V → pl w = 0 := fun w _ hw => by
            have q := pu_ge (f := pl) (w := w) V 0 (fun w _ hw => (QM_pb hM w (by omega)).1) (by omega) (by omega)
            have := (QM_pb hM w (by omega)).1
            omega
          obtain ⟨σ1', a1, a2, a3, -⟩ := cChoose (q := 0) (but := -1) m10 hM.1 (QM_p hM) (by unfold R; omega) (by omega) hM.2.1 hM.2.2.2.1.1
          rw [P0] at f1
          have es : σ1' = σ1 := by
            have := a1.symm.trans f1
            cases this
            rfl
          rw [es, show bu (lcs d p (-1) V V) 0 = 0 from rfl, lcs_0, f5] at a3
          have k := plK_c hm bm u1 c (by rw [P0]; exact f1) hm1 v1 f5
          rw [pc_0 V 0 z, a3, show I 0 - I (enc 100000000 (some 0)) = I 0 from rfl] at k
          exact ⟨_, _, _, k, pl_c g21 x1 ri e2 hs u2 c P0, f7, RQr⟩
        · exact ⟨_, _, _, plK_c hm bm u1 c f1 hm1 v1 f5, pl_d g21 x1 ri e2 hs u2 c (by omega) (by omega) f2 v2 f5', f7, f8⟩)
  refine ⟨x, σ', τ', ?_, k2, ⟨m, V, E, pres, kp, d, p, L, W, dl, pl, et, b, t, s, rd, h, n, g, GA_B k3 (by omega)⟩, k4⟩
  unfold f_X6_planned
  rw [show (0 : Int32) = I 0 from rfl, show (2 : Int32) = I 2 from rfl, c1, bd_s, hG.2.1, bm, gd_t, e1, bd_s]
  exact k1
