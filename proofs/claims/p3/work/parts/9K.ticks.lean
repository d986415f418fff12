/-! PURE: ticks -/
theorem TF_trans {m r : Nat} {σ τ σ1 τ1 σ2 τ2 : Wd} (h : TF m r σ τ σ1 τ1) (g : TF m r σ1 τ1 σ2 τ2) : TF m r σ τ σ2 τ2 :=
  ⟨⟨fun k a1 a2 a3 => by rw [g.1.1 k a1 a2 a3, h.1.1 k a1 a2 a3], by rw [g.1.2, h.1.2]⟩, ⟨fun k a1 a2 a3 a4 => by rw [g.2.1 k a1 a2 a3 a4, h.2.1 k a1 a2 a3 a4], fun i a1 a2 => by rw [g.2.2.1 i a1 a2, h.2.2.1 i a1 a2], by rw [g.2.2.2, h.2.2.2]⟩⟩
theorem TF_refl {m r : Nat} {σ τ : Wd} : TF m r σ τ σ τ := ⟨⟨fun _ _ _ _ => rfl, rfl⟩, ⟨fun _ _ _ _ _ => rfl, fun _ _ _ => rfl, rfl⟩⟩
theorem t35_step {m k : Nat} {N z : Int} {x2 : Int32} {σ σ' : Wd} (hm : σ.2.2 0 4 = m) (bm : bM m = true) (h0 : 0 ≤ z) (hz : z < N) (hN : N ≤ 200) (e : f_X4_tick 63 m σ = some (0, σ')) : f_X6_ticks_35 (k + 1) (I N) x2 (I z) σ = f_X6_ticks_35 k (I N) x2 (I (z + 1)) σ' := by
  rw [f_X6_ticks_35]
  simp (disch := omega) only [gd_t, bd_s, nm_W, nm_I, I_add, I_sub, I_mul, I_neg, I_le_t, I_le_f, I_lt_t, I_lt_f, I_eq_t, I_eq_f, I_inb', I_ix', Int.toNat_natCast, decide_true, decide_false, Bool.not_false, Bool.not_true, if_true, if_false, wi_eq, wi_eq', wi_ne, wi_row, wi_2, N0, N1, N2, N3, N4, N5, N6, N7, N8, N9, N10, N11, N12, N13, N14, N15, N16, N17, N18, N19, N20, N21, N22, N23, N24, N25, N26, N27, N28, N29, N30, N31, N32, N33, N34, N35, N36, N37, N38, N39, N40, N41, N42, N43, N45, N48, N57, N59, N88, N89, N97, N99, N120, N121, N122, N179, N200, N255, N300, N400, N880, N900, N999, N1019, N50000000, N100000000, N1000000000, N2147483647, N2147483648, hm, bm, e]
theorem t35_end {k : Nat} {N z : Int} {x2 : Int32} {σ : Wd} (h0 : 0 ≤ N) (hz : z = N) (hN : N ≤ 200) : f_X6_ticks_35 (k + 1) (I N) x2 (I z) σ = some (σ.1 63 3 - x2, σ) := by
  rw [f_X6_ticks_35]
  simp (disch := omega) only [gd_t, bd_s, nm_W, nm_I, I_add, I_sub, I_mul, I_neg, I_le_t, I_le_f, I_lt_t, I_lt_f, I_eq_t, I_eq_f, I_inb', I_ix', Int.toNat_natCast, decide_true, decide_false, Bool.not_false, Bool.not_true, if_true, if_false, wi_eq, wi_eq', wi_ne, wi_row, wi_2, N0, N1, N2, N3, N4, N5, N6, N7, N8, N9, N10, N11, N12, N13, N14, N15, N16, N17, N18, N19, N20, N21, N22, N23, N24, N25, N26, N27, N28, N29, N30, N31, N32, N33, N34, N35, N36, N37, N38, N39, N40, N41, N42, N43, N45, N48, N57, N59, N88, N89, N97, N99, N120, N121, N122, N179, N200, N255, N300, N400, N880, N900, N999, N1019, N50000000, N100000000, N1000000000, N2147483647, N2147483648]
theorem t55_step {k : Nat} {N z : Int} {acc nb : Int32} {τ τ' : Wd} (h0 : 0 ≤ z) (hz : z < N) (hN : N ≤ 200) (e : f_X7_tick τ = some (nb, τ')) : f_X7_ticks_55 (k + 1) (I N) acc (I z) τ = f_X7_ticks_55 k (I N) (acc + nb) (I (z + 1)) τ' := by
  rw [f_X7_ticks_55]
  simp (disch := omega) only [gd_t, bd_s, nm_W, nm_I, I_add, I_sub, I_mul, I_neg, I_le_t, I_le_f, I_lt_t, I_lt_f, I_eq_t, I_eq_f, I_inb', I_ix', Int.toNat_natCast, decide_true, decide_false, Bool.not_false, Bool.not_true, if_true, if_false, wi_eq, wi_eq', wi_ne, wi_row, wi_2, N0, N1, N2, N3, N4, N5, N6, N7, N8, N9, N10, N11, N12, N13, N14, N15, N16, N17, N18, N19, N20, N21, N22, N23, N24, N25, N26, N27, N28, N29, N30, N31, N32, N33, N34, N35, N36, N37, N38, N39, N40, N41, N42, N43, N45, N48, N57, N59, N88, N89, N97, N99, N120, N121, N122, N179, N200, N255, N300, N400, N880, N900, N999, N1019, N50000000, N100000000, N1000000000, N2147483647, N2147483648, e]
theorem t55_end {k : Nat} {N z : Int} {acc : Int32} {τ : Wd} (h0 : 0 ≤ N) (hz : z = N) (hN : N ≤ 200) : f_X7_ticks_55 (k + 1) (I N) acc (I z) τ = bd (f_X7_good acc τ) (fun r s => some (r, s)) := by
  rw [f_X7_ticks_55]
  simp (disch := omega) only [gd_t, bd_s, nm_W, nm_I, I_add, I_sub, I_mul, I_neg, I_le_t, I_le_f, I_lt_t, I_lt_f, I_eq_t, I_eq_f, I_inb', I_ix', Int.toNat_natCast, decide_true, decide_false, Bool.not_false, Bool.not_true, if_true, if_false, wi_eq, wi_eq', wi_ne, wi_row, wi_2, N0, N1, N2, N3, N4, N5, N6, N7, N8, N9, N10, N11, N12, N13, N14, N15, N16, N17, N18, N19, N20, N21, N22, N23, N24, N25, N26, N27, N28, N29, N30, N31, N32, N33, N34, N35, N36, N37, N38, N39, N40, N41, N42, N43, N45, N48, N57, N59, N88, N89, N97, N99, N120, N121, N122, N179, N200, N255, N300, N400, N880, N900, N999, N1019, N50000000, N100000000, N1000000000, N2147483647, N2147483648]
theorem add_sub32 (x y : Int32) : x + y - x = y := by
  rw [Int32.add_comm, Int32.add_sub_cancel]
theorem ticks_ok {m V E : Nat} {p L W N : Int} {dl pl et : Nat → Int} {x2 : Int32} (m10 : 10 < m) (m63 : m + 12 < 63) (bm : bM m = true) (hN0 : 0 ≤ N) (hN : N ≤ 200) :
    ∀ (rr n1 n2 : Nat) (z t s rd : Int) (acc : Int32) (d : MD) (h n g : Nat → Int) (σ τ : Wd), z + (rr : Int) = N → 0 ≤ z → rr < n1 → rr < n2 → QQ m 63 σ τ V E d p L W dl pl et true t s rd h n g → t + (rr : Int) ≤ 900000 → σ.2.2 0 4 = m → σ.1 63 3 = x2 + acc →
      ∃ (σ' τ' : Wd) (y : Int32) (d' : MD) (s' rd' : Int) (h' n' g' : Nat → Int), f_X6_ticks_35 n1 (I N) x2 (I z) σ = some (y, σ') ∧ f_X7_ticks_55 n2 (I N) acc (I z) τ = bd (f_X7_good y τ') (fun r s => some (r, s)) ∧ QQ m 63 σ' τ' V E d' p L W dl pl et true (t + (rr : Int)) s' rd' h' n' g' ∧ TF m 63 σ τ σ' τ'
  | 0, n1 + 1, n2 + 1, z, t, s, rd, acc, d, h, n, g, σ, τ, hz, hz0, _, _, hQ, _, hm, h3 => by
    refine ⟨σ, τ, acc, d, s, rd, h, n, g, ?_, t55_end hN0 (by omega) hN, ?_, TF_refl⟩
    · rw [t35_end hN0 (by omega) hN, h3, add_sub32]
    · rw [show t + ((0 : Nat) : Int) = t from by omega]
      exact hQ
  | rr + 1, n1 + 1, n2 + 1, z, t, s, rd, acc, d, h, n, g, σ, τ, hz, hz0, hn1, hn2, hQ, ht, hm, h3 => by
    obtain ⟨σ1, τ1, d1, s1, rd1, h1, n1', g1, nb, a1, a2, a3, a4, a5, a6⟩ := tick_ok m10 m63 hQ (by omega)
    obtain ⟨σ', τ', y, d', s', rd', h', n', g', b1, b2, b3, b4⟩ := ticks_ok m10 m63 bm hN0 hN rr n1 n2 (z + 1) (t + 1) s1 rd1 (acc + nb) d1 h1 n1' g1 σ1 τ1 (by omega) (by omega) (by omega) (by omega) a3 (by omega) (by rw [a6.1.2]; exact hm) (by rw [a5, h3, Int32.add_assoc])
    refine ⟨σ', τ', y, d', s', rd', h', n', g', ?_, ?_, ?_, TF_trans a6 b4⟩
    · rw [t35_step hm bm hz0 (by omega) hN a1]; exact b1
    · rw [t55_step hz0 (by omega) hN a2]; exact b2
    · rw [show t + ((rr + 1 : Nat) : Int) = t + 1 + (rr : Int) from by omega]
      exact b3
