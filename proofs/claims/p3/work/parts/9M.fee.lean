/-! PURE: fee -/
def df (d : MD) (i : Nat) (x : Int) : MD := ((d.1.1, d.1.2.1, (fun j => if j = i then x else d.1.2.2.1 j), d.1.2.2.2), d.2)
theorem MDok_df {d : MD} {V i : Nat} {x : Int} (h : MDok d V) (h1 : -9 ≤ x) (h2 : x ≤ 9) : MDok (df d i x) V := by
  refine ⟨h.1, fun v hv => ?_⟩
  obtain ⟨a, b, c, e, f, g⟩ := h.2 v hv
  refine ⟨a, b, ?_, e, f, g⟩
  show -9 ≤ (if v = i then x else d.fe v) ∧ (if v = i then x else d.fe v) ≤ 9
  split
  · exact ⟨h1, h2⟩
  · exact c
theorem CV_df {m : Nat} {σ : Wd} {V i : Nat} {d : MD} {x : Int} (h : CV m σ V d) : CV m (wi σ (m + 3) i (I x)) V (df d i x) := by
  refine ⟨by rw [wi_row (by omega)]; exact h.1, fun v hv => ?_⟩
  obtain ⟨a, b, c, e, f, g⟩ := h.2 v hv
  rw [wi_row (show m + 1 ≠ m + 3 by omega), wi_row (show m + 2 ≠ m + 3 by omega), wi_row (show m + 4 ≠ m + 3 by omega), wi_row (show m + 6 ≠ m + 3 by omega), wi_row (show m + 8 ≠ m + 3 by omega), wi_row (show m + 9 ≠ m + 3 by omega)]
  refine ⟨a, b, ?_, e, f, g⟩
  show _ = I (if v = i then x else d.fe v)
  by_cases q : v = i
  · rw [if_pos q, q, wi_eq]
  · rw [if_neg q, wi_ne q]; exact c
theorem RV_df {τ : Wd} {V i : Nat} {d : MD} {x : Int} (h : RV τ V d) (hV : V ≤ 5) (hl : ∀ v, v < V → d.lv v ≤ 6) (hi : i < V) : RV (wi τ 112 (30 + i) (I x)) V (df d i x) := by
  refine ⟨by rw [wi_row (by decide)]; exact h.1, fun v hv => ?_⟩
  obtain ⟨a, b, c, e, f, g⟩ := h.2 v hv
  have := hl v hv
  rw [wi_row (show 103 ≠ 112 by decide), wi_row (show 104 ≠ 112 by decide)]
  refine ⟨a, b, ?_, e, f, fun k hk => ⟨(g k hk).1, ?_⟩⟩
  · show _ = I (if v = i then x else d.fe v)
    by_cases q : v = i
    · rw [if_pos q, q, wi_eq]
    · rw [if_neg q, wi_ne (by omega)]; exact c
  · have hk : k < d.lv v := hk
    rw [wi_ne (by omega)]
    exact (g k hk).2
theorem fee_r {τ : Wd} {v : Nat} {q a y f : Int} (v5 : v < 5) (e1 : f_X7_isVenue (I (v : Int)) (wi τ 102 0 (I 0)) = some (I 1, wi τ 102 0 (I 0))) (e : f_X7_in (I q) (I (-9)) (I 9) (wi τ 102 0 (I 0)) = some (I a, wi τ 102 0 (I 0))) (ha : 0 ≤ a ∧ a ≤ 1) (h36 : τ.1 112 36 = I y) (hy : 0 ≤ y ∧ y ≤ 1) (hf : τ.1 112 (30 + v) = I f) :
    f_X7_fee (I (v : Int)) (I q) τ = if a = 0 then some (I (-2147483648), refW τ (I 2)) else if y = 1 then some (I (-2147483648), refW τ (I 5)) else some (I f, wi (wi (wi (wi τ 102 0 (I 0)) 112 (30 + v) (I q)) 102 1 (I 0)) 102 2 (I (-1))) := by
  have w36 : Int.toNat 36 = 36 := rfl
  have w30 : ((30 : Int) + (v : Int)).toNat = 30 + v := by omega
  by_cases c2 : a = 0
  · rw [if_pos c2]
    unfold f_X7_fee refW
    simp (disch := omega) only [gd_t, bd_s, nm_W, nm_I, I_add, I_sub, I_mul, I_neg, I_le_t, I_le_f, I_lt_t, I_lt_f, I_eq_t, I_eq_f, I_inb', I_ix', Int.toNat_natCast, decide_true, decide_false, Bool.not_false, Bool.not_true, if_true, if_false, wi_eq, wi_eq', wi_ne, wi_row, wi_2, N0, N1, N2, N3, N4, N5, N6, N7, N8, N9, N10, N11, N12, N13, N14, N15, N16, N17, N18, N19, N20, N21, N22, N23, N24, N25, N26, N27, N28, N29, N30, N31, N32, N33, N34, N35, N36, N37, N38, N39, N40, N41, N42, N43, N45, N48, N57, N59, N88, N89, N97, N99, N120, N121, N122, N179, N200, N255, N300, N400, N880, N900, N999, N1019, N50000000, N100000000, N1000000000, N2147483647, N2147483648, e1, e, refL]
  · rw [if_neg c2]
    by_cases c3 : y = 1
    · rw [if_pos c3]
      unfold f_X7_fee refW
      simp (disch := omega) only [gd_t, bd_s, nm_W, nm_I, I_add, I_sub, I_mul, I_neg, I_le_t, I_le_f, I_lt_t, I_lt_f, I_eq_t, I_eq_f, I_inb', I_ix', Int.toNat_natCast, decide_true, decide_false, Bool.not_false, Bool.not_true, if_true, if_false, wi_eq, wi_eq', wi_ne, wi_row, wi_2, N0, N1, N2, N3, N4, N5, N6, N7, N8, N9, N10, N11, N12, N13, N14, N15, N16, N17, N18, N19, N20, N21, N22, N23, N24, N25, N26, N27, N28, N29, N30, N31, N32, N33, N34, N35, N36, N37, N38, N39, N40, N41, N42, N43, N45, N48, N57, N59, N88, N89, N97, N99, N120, N121, N122, N179, N200, N255, N300, N400, N880, N900, N999, N1019, N50000000, N100000000, N1000000000, N2147483647, N2147483648, e1, e, w36, h36, refL]
    · rw [if_neg c3]
      unfold f_X7_fee
      simp (disch := omega) only [gd_t, bd_s, nm_W, nm_I, I_add, I_sub, I_mul, I_neg, I_le_t, I_le_f, I_lt_t, I_lt_f, I_eq_t, I_eq_f, I_inb', I_ix', Int.toNat_natCast, decide_true, decide_false, Bool.not_false, Bool.not_true, if_true, if_false, wi_eq, wi_eq', wi_ne, wi_row, wi_2, N0, N1, N2, N3, N4, N5, N6, N7, N8, N9, N10, N11, N12, N13, N14, N15, N16, N17, N18, N19, N20, N21, N22, N23, N24, N25, N26, N27, N28, N29, N30, N31, N32, N33, N34, N35, N36, N37, N38, N39, N40, N41, N42, N43, N45, N48, N57, N59, N88, N89, N97, N99, N120, N121, N122, N179, N200, N255, N300, N400, N880, N900, N999, N1019, N50000000, N100000000, N1000000000, N2147483647, N2147483648, e1, e, w36, h36, w30, hf, goodR]
